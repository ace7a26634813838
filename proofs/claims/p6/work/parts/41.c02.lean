/-! contracts by the kernel -/
/-- LastCloudModel.sign -/
def c_140 : ttCon := (249, 3, [(2, (0, 183, (9, 0, 0))), (0, (1, 0, (0, (-2147483648), 2147483647))), (0, (1, 0, (0, 0, 1)))], [], [(1, 0, (0, (-2), 468470000))], [], true, [])
theorem hc_140 {XX : xH → Prop} (hm : ttM_0 XX) : ttHas XX c_140 := ttMet_ok (ev := ([c_139], c_140.2.2.2.2.2.2, ttFF)) (n := 52) (cuts := []) (ttCe (hc_139 hm) (ttCo)) hm rfl (by decide +kernel) (by decide +kernel)
/-- LastCloudModel.fastOf -/
def c_141 : ttCon := (261, 1, [(2, (0, 183, (9, 0, 0))), (0, (1, 0, (0, 0, 2000)))], [], [(1, 0, (0, (-1), 5))], [], true, [])
def c_141_4 : Nat × ttCtA := (4, [(2, (0, 183, (9, 0, 0))), (0, (1, 0, (0, 0, 2000))), (0, (1, 0, (0, (-1), 5))), (0, (1, 0, (0, 0, 6))), (9, (1, 0, (9, 0, 0))), (9, (1, 0, (9, 0, 0)))], [], 6, [((-1), (1, 3), (-1))], [0, 1])
theorem hc_141 {XX : xH → Prop} (hm : ttM_0 XX) : ttHas XX c_141 := ttMet_ok (ev := ([], c_141.2.2.2.2.2.2, ttFF)) (n := 58) (cuts := [c_141_4]) (ttCo) hm rfl (by decide +kernel) (by decide +kernel)
/-- LastCloudModel.fast -/
def c_142 : ttCon := (263, 3, [(2, (0, 183, (9, 0, 0))), (0, (1, 0, (0, (-2147483648), 2147483647)))], [], [(1, 0, (0, (-2), 5))], [], true, [])
theorem hc_142 {XX : xH → Prop} (hm : ttM_0 XX) : ttHas XX c_142 := ttMet_ok (ev := ([c_141], c_142.2.2.2.2.2.2, ttFF)) (n := 28) (cuts := []) (ttCe (hc_141 hm) (ttCo)) hm rfl (by decide +kernel) (by decide +kernel)
/-- LastCloudModel.average -/
def c_143 : ttCon := (264, 3, [(2, (0, 183, (9, 0, 0))), (0, (1, 0, (0, (-2147483648), 2147483647)))], [], [(1, 0, (0, (-2), 3000000))], [], true, [])
theorem hc_143 {XX : xH → Prop} (hm : ttM_0 XX) : ttHas XX c_143 := ttMet_ok (ev := ([c_141], c_143.2.2.2.2.2.2, ttFF)) (n := 56) (cuts := []) (ttCe (hc_141 hm) (ttCo)) hm rfl (by decide +kernel) (by decide +kernel)
/-- LastCloudModel.farthest -/
def c_144 : ttCon := (265, 1, [(2, (0, 183, (9, 0, 0)))], [], [(1, 0, (0, (-1), 5))], [], true, [])
def c_144_4 : Nat × ttCtA := (4, [(2, (0, 183, (9, 0, 0))), (0, (1, 0, (0, (-1), 5))), (0, (1, 0, (0, 0, 6))), (9, (1, 0, (9, 0, 0))), (9, (1, 0, (9, 0, 0)))], [], 6, [((-1), (1, 2), (-1))], [0])
theorem hc_144 {XX : xH → Prop} (hm : ttM_0 XX) : ttHas XX c_144 := ttMet_ok (ev := ([], c_144.2.2.2.2.2.2, ttFF)) (n := 54) (cuts := [c_144_4]) (ttCo) hm rfl (by decide +kernel) (by decide +kernel)
/-- LastCloudModel.startWet -/
def c_145 : ttCon := (282, 1, [(2, (0, 183, (9, 0, 0)))], [], [(1, 0, (0, 0, 1))], [], true, [])
theorem hc_145 {XX : xH → Prop} (hm : ttM_0 XX) : ttHas XX c_145 := ttMet_ok (ev := ([], c_145.2.2.2.2.2.2, ttFF)) (n := 19) (cuts := []) (ttCo) hm rfl (by decide +kernel) (by decide +kernel)
/-- LastCloudModel.mixed -/
def c_146 : ttCon := (270, 5, [(2, (0, 183, (9, 0, 0))), (2, (0, 195, (9, 0, 0))), (0, (1, 0, (0, 0, 7))), (0, (1, 0, (0, 0, 60))), (0, (1, 0, (0, 0, 1))), (0, (1, 0, (0, 0, 1)))], [], [(1, 0, (0, (-2147483648), 2147483647))], [], true, [])
theorem hc_146 {XX : xH → Prop} (hm : ttM_0 XX) : ttHas XX c_146 := ttMet_ok (ev := ([c_137], c_146.2.2.2.2.2.2, ttFF)) (n := 79) (cuts := []) (ttCe (hc_137 hm) (ttCo)) hm rfl (by decide +kernel) (by decide +kernel)
/-- LastCloudModel.ones -/
def c_147 : ttCon := (229, 1, [(0, (1, 0, (0, 0, 255)))], [], [(1, 0, (0, (-2147483648), 2147483647))], [], true, [])
def c_147_4 : Nat × ttCtA := (4, [(0, (1, 0, (0, 0, 255))), (0, (1, 0, (0, (-2147483648), 2147483647))), (0, (1, 0, (0, 0, 31)))], [], 31, [((-1), (1, 2), (-1))], [0])
theorem hc_147 {XX : xH → Prop} (hm : ttM_0 XX) : ttHas XX c_147 := ttMet_ok (ev := ([], c_147.2.2.2.2.2.2, ttFF)) (n := 19) (cuts := [c_147_4]) (ttCo) hm rfl (by decide +kernel) (by decide +kernel)
/-- LastCloudModel.landingOf -/
def c_148 : ttCon := (268, 2, [(2, (0, 183, (9, 0, 0))), (0, (1, 0, (0, 0, 7))), (0, (1, 0, (0, 0, 47)))], [], [(1, 0, (0, (-9999), 9999))], [], true, [])
theorem hc_148 {XX : xH → Prop} (hm : ttM_0 XX) : ttHas XX c_148 := ttMet_ok (ev := ([], c_148.2.2.2.2.2.2, ttFF)) (n := 51) (cuts := []) (ttCo) hm rfl (by decide +kernel) (by decide +kernel)
abbrev w_landingOf : ttCon := c_148
theorem hw_landingOf {XX : xH → Prop} (hm : ttM_0 XX) : ttHas XX w_landingOf := hc_148 hm
/-- LastCloudModel.wayOf -/
def c_149 : ttCon := (293, 1, [(2, (0, 183, (9, 0, 0))), (0, (1, 0, (0, 0, 7))), (0, (1, 0, (0, 0, 1))), (0, (1, 0, (0, 0, 199)))], [], [(5, 0, (0, 0, 959)), (0, (-1), (9, 0, 0))], [], true, [])
def c_149_8 : Nat × ttCtA := (8, [(2, (0, 183, (9, 0, 0))), (0, (1, 0, (0, 0, 7))), (0, (1, 0, (0, 0, 1))), (0, (1, 0, (0, 0, 199))), (0, (1, 0, (0, 0, 15))), (0, (1, 0, (0, 0, 60))), (9, (1, 0, (9, 0, 0)))], [], 60, [((-1), (1, 5), (-1))], [0, 1, 2, 3])
theorem hc_149 {XX : xH → Prop} (hm : ttM_0 XX) : ttHas XX c_149 := ttMet_ok (ev := ([], c_149.2.2.2.2.2.2, ttFF)) (n := 39) (cuts := [c_149_8]) (ttCo) hm rfl (by decide +kernel) (by decide +kernel)
/-- LastCloudModel.does -/
def c_150 : ttCon := (303, 5, [(2, (0, 183, (9, 0, 0))), (1, (1, 0, (0, (-9223372036854775808), 9223372036854775807)))], [], [(1, 0, (0, 0, 1))], [], true, [(183, 32, 37)])
theorem hc_150 {XX : xH → Prop} (hm : ttM_0 XX) : ttHas XX c_150 := ttMet_ok (ev := ([c_134, c_137, c_149], c_150.2.2.2.2.2.2, ttFF)) (n := 267) (cuts := []) (ttCe (hc_134 hm) (ttCe (hc_137 hm) (ttCe (hc_149 hm) (ttCo)))) hm rfl (by decide +kernel) (by decide +kernel)
/-- LastCloudModel.flown -/
def c_151 : ttCon := (307, 2, [(2, (0, 183, (9, 0, 0))), (0, (1, 0, (0, (-2147483648), 2147483647))), (0, (1, 0, (0, (-2147483648), 2147483647)))], [], [(1, 0, (0, (-2147483648), 2147483647))], [], true, [])
theorem hc_151 {XX : xH → Prop} (hm : ttM_0 XX) : ttHas XX c_151 := ttMet_ok (ev := ([], c_151.2.2.2.2.2.2, ttFF)) (n := 49) (cuts := []) (ttCo) hm rfl (by decide +kernel) (by decide +kernel)
/-- LastCloudModel.landed -/
def c_152 : ttCon := (308, 2, [(2, (0, 183, (9, 0, 0))), (0, (1, 0, (0, (-2147483648), 2147483647)))], [], [(1, 0, (0, (-2147483648), 2147483647))], [], true, [])
theorem hc_152 {XX : xH → Prop} (hm : ttM_0 XX) : ttHas XX c_152 := ttMet_ok (ev := ([], c_152.2.2.2.2.2.2, ttFF)) (n := 26) (cuts := []) (ttCo) hm rfl (by decide +kernel) (by decide +kernel)
/-- LastCloudModel.liftSet -/
def c_153 : ttCon := (320, 2, [(2, (0, 183, (9, 0, 0)))], [], [(1, 0, (0, 0, 255))], [], true, [])
def c_153_4 : Nat × ttCtA := (4, [(2, (0, 183, (9, 0, 0))), (0, (1, 0, (0, 0, 255))), (0, (1, 0, (0, 0, 8)))], [], 8, [((-1), (1, 2), (-1))], [0])
theorem hc_153 {XX : xH → Prop} (hm : ttM_0 XX) : ttHas XX c_153 := ttMet_ok (ev := ([], c_153.2.2.2.2.2.2, ttFF)) (n := 38) (cuts := [c_153_4]) (ttCo) hm rfl (by decide +kernel) (by decide +kernel)
abbrev w_liftSet : ttCon := c_153
theorem hw_liftSet {XX : xH → Prop} (hm : ttM_0 XX) : ttHas XX w_liftSet := hc_153 hm
/-- LastCloudModel.count -/
def c_154 : ttCon := (326, 3, [(2, (0, 183, (9, 0, 0))), (0, (1, 0, (0, (-2147483648), 2147483647)))], [], [(1, 0, (0, (-2147483648), 2147483647))], [], true, [])
def c_154_53 : Nat × ttCtA := (53, [(2, (0, 183, (9, 0, 0))), (0, (1, 0, (0, 10, 10))), (0, (1, 0, (0, (-2147483648), 2147483647))), (0, (1, 0, (0, 0, 4)))], [], 4, [((-1), (1, 3), (-1))], [0, 1])
theorem hc_154 {XX : xH → Prop} (hm : ttM_0 XX) : ttHas XX c_154 := ttMet_ok (ev := ([c_147, c_153], c_154.2.2.2.2.2.2, ttFF)) (n := 22) (cuts := [c_154_53]) (ttCe (hc_147 hm) (ttCe (hc_153 hm) (ttCo))) hm rfl (by decide +kernel) (by decide +kernel)
/-- LastCloudModel.row -/
def c_155 : ttCon := (329, 3, [(2, (0, 183, (9, 0, 0))), (0, (1, 0, (0, (-2147483648), 2147483647))), (0, (1, 0, (0, (-2147483648), 2147483647))), (0, (1, 0, (0, (-2147483648), 2147483647)))], [], [(1, 0, (0, (-3), 0))], [], true, [(206, 0, 3), (207, 0, 3), (208, 0, 239)])
def c_155_30 : Nat × ttCtA := (30, [(2, (0, 183, (9, 0, 0))), (0, (1, 0, (0, 0, 3))), (0, (1, 0, (0, 0, 3))), (0, (1, 0, (0, 0, 60))), (0, (1, 0, (0, 0, 60)))], [], 60, [((-1), (1, 4), (-1))], [0, 1, 2, 3])
theorem hc_155 {XX : xH → Prop} (hm : ttM_0 XX) : ttHas XX c_155 := ttMet_ok (ev := ([], c_155.2.2.2.2.2.2, ttFF)) (n := 56) (cuts := [c_155_30]) (ttCo) hm rfl (by decide +kernel) (by decide +kernel)
/-- LastCloudModel.write -/
def c_156 : ttCon := (330, 3, [(2, (0, 183, (9, 0, 0))), (0, (1, 0, (0, (-2147483648), 2147483647))), (0, (1, 0, (0, (-2147483648), 2147483647))), (1, (1, 0, (0, (-9223372036854775808), 9223372036854775807)))], [], [(1, 0, (0, (-7), 0))], [], true, [(208, 0, 239)])
theorem hc_156 {XX : xH → Prop} (hm : ttM_0 XX) : ttHas XX c_156 := ttMet_ok (ev := ([], c_156.2.2.2.2.2.2, ttFF)) (n := 78) (cuts := []) (ttCo) hm rfl (by decide +kernel) (by decide +kernel)
/-- Polar.fastest -/
def c_157 : ttCon := (67, 1, [(2, (1, 0, (1, 10, 0))), (0, (1, 0, (0, 0, 100)))], [], [(1, 0, (0, (-1), 5))], [], true, [])
def c_157_4 : Nat × ttCtA := (4, [(2, (1, 0, (1, 10, 0))), (0, (1, 0, (0, 0, 100))), (0, (1, 0, (0, (-1), 5))), (0, (1, 0, (0, 0, 6)))], [], 6, [((-1), (1, 3), (-1))], [0, 1])
theorem hc_157 {XX : xH → Prop} (hm : ttM_0 XX) : ttHas XX c_157 := ttMet_ok (ev := ([], c_157.2.2.2.2.2.2, ttFF)) (n := 40) (cuts := [c_157_4]) (ttCo) hm rfl (by decide +kernel) (by decide +kernel)
/-- Polar.fastest -/
def c_158 : ttCon := (67, 1, [(2, (1, 0, (1, 10, 0))), (0, (1, 0, (0, 0, 2147483647)))], [], [(1, 0, (0, (-1), 5))], [], true, [])
def c_158_4 : Nat × ttCtA := (4, [(2, (1, 0, (1, 10, 0))), (0, (1, 0, (0, 0, 2147483647))), (0, (1, 0, (0, (-1), 5))), (0, (1, 0, (0, 0, 6)))], [], 6, [((-1), (1, 3), (-1))], [0, 1])
theorem hc_158 {XX : xH → Prop} (hm : ttM_0 XX) : ttHas XX c_158 := ttMet_ok (ev := ([], c_158.2.2.2.2.2.2, ttFF)) (n := 40) (cuts := [c_158_4]) (ttCo) hm rfl (by decide +kernel) (by decide +kernel)
/-- Plan.leastByRule -/
def c_159 : ttCon := (48, 3, [(2, (1, 0, (1, 210, 0))), (0, (1, 0, (0, 0, 239))), (0, (1, 0, (0, 0, 1)))], [], [(1, 0, (0, (-2147483648), 2147483647))], [], true, [])
theorem hc_159 {XX : xH → Prop} (hm : ttM_0 XX) : ttHas XX c_159 := ttMet_ok (ev := ([c_157, c_158], c_159.2.2.2.2.2.2, ttFF)) (n := 63) (cuts := []) (ttCe (hc_157 hm) (ttCe (hc_158 hm) (ttCo))) hm rfl (by decide +kernel) (by decide +kernel)
/-- Plan.begin -/
def c_160 : ttCon := (47, 4, [(2, (1, 0, (1, 210, 0))), (2, (1, 0, (1, 7, 0))), (2, (0, 63, (9, 0, 0))), (0, (1, 0, (0, 0, 3)))], [], [(0, 0, (9, 0, 0))], [], true, [(210, 9, 14), (216, 0, 239), (217, 0, 7), (218, 0, 7), (219, 0, 7)])
def c_160_6 : Nat × ttCtA := (6, [(2, (1, 0, (1, 210, 0))), (2, (1, 0, (1, 7, 0))), (2, (0, 63, (9, 0, 0))), (0, (1, 0, (0, 0, 3))), (9, (1, 0, (9, 0, 0))), (9, (1, 0, (9, 0, 0)))], [((1, 0), 10, (1, 0, (10, 1, 0)))], 4123, [], [0, 1, 2, 3])
def c_160_22 : Nat × ttCtA := (22, [(2, (1, 0, (1, 210, 0))), (2, (1, 0, (1, 7, 0))), (2, (0, 63, (9, 0, 0))), (0, (1, 0, (0, 0, 3))), (0, (1, 0, (0, 0, 8))), (9, (1, 0, (9, 0, 0)))], [((1, 0), 10, (1, 0, (10, 1, 0))), ((1, 0), 12, (1, 0, (0, 0, 3))), ((1, 0), 13, (1, 0, (0, 1, 48))), ((1, 0), 14, (1, 0, (0, 1, 48)))], 4122, [((-1), (1, 4), (-1))], [0, 1, 2, 3])
def c_160_57 : Nat × ttCtA := (57, [(2, (1, 0, (1, 210, 0))), (2, (1, 0, (1, 7, 0))), (2, (0, 63, (9, 0, 0))), (0, (1, 0, (0, 0, 3))), (0, (1, 0, (0, 0, 16))), (9, (1, 0, (9, 0, 0)))], [((1, 0), 10, (1, 0, (10, 1, 0))), ((1, 0), 12, (1, 0, (0, 0, 3))), ((1, 0), 13, (1, 0, (0, 1, 48))), ((1, 0), 14, (1, 0, (0, 1, 48)))], 4113, [((-242), (1, 4), (-1))], [0, 1, 2, 3])
def c_160_66 : Nat × ttCtA := (66, [(2, (1, 0, (1, 210, 0))), (2, (1, 0, (1, 7, 0))), (2, (0, 63, (9, 0, 0))), (0, (1, 0, (0, 0, 3))), (0, (1, 0, (0, 0, 15))), (0, (1, 0, (0, 0, 240)))], [((1, 0), 10, (1, 0, (10, 1, 0))), ((1, 0), 12, (1, 0, (0, 0, 3))), ((1, 0), 13, (1, 0, (0, 1, 48))), ((1, 0), 14, (1, 0, (0, 1, 48)))], 4112, [((-242), (1, 4), (-1)), ((-1), (1, 5), (-1))], [0, 1, 2, 3])
theorem hc_160 {XX : xH → Prop} (hm : ttM_0 XX) : ttHas XX c_160 := ttMet_ok (ev := ([c_39, c_42, c_159], c_160.2.2.2.2.2.2, ttFF)) (n := 39) (cuts := [c_160_6, c_160_22, c_160_57, c_160_66]) (ttCe (hc_39 hm) (ttCe (hc_42 hm) (ttCe (hc_159 hm) (ttCo)))) hm rfl (by decide +kernel) (by decide +kernel)
theorem kc_160 {XX : xH → Prop} (hm : ttM_0 XX) : ttCutS XX c_160 [c_160_6, c_160_22, c_160_57, c_160_66] := ttCutS_ok (ev := ([c_39, c_42, c_159], c_160.2.2.2.2.2.2, ttFF)) (n := 39) (ttCe (hc_39 hm) (ttCe (hc_42 hm) (ttCe (hc_159 hm) (ttCo)))) hm rfl (by decide) (by decide +kernel)
abbrev w_plbegin : ttCon := c_160
theorem hw_plbegin {XX : xH → Prop} (hm : ttM_0 XX) : ttHas XX w_plbegin := hc_160 hm
abbrev zc_plbegin_6 : Nat × ttCtA := c_160_6
abbrev zc_plbegin_22 : Nat × ttCtA := c_160_22
abbrev zc_plbegin_57 : Nat × ttCtA := c_160_57
abbrev zc_plbegin_66 : Nat × ttCtA := c_160_66
abbrev z_plbegin : List (Nat × ttCtA) := [c_160_6, c_160_22, c_160_57, c_160_66]
theorem kw_plbegin {XX : xH → Prop} (hm : ttM_0 XX) : ttCutS XX w_plbegin z_plbegin := kc_160 hm
/-- LastCloudModel.chanceOf -/
def c_161 : ttCon := (245, 4, [(2, (0, 183, (9, 0, 0))), (0, (1, 0, (0, 0, 7)))], [], [(1, 0, (0, (-2147483648), 2147483647))], [], true, [])
theorem hc_161 {XX : xH → Prop} (hm : ttM_0 XX) : ttHas XX c_161 := ttMet_ok (ev := ([c_137], c_161.2.2.2.2.2.2, ttFF)) (n := 13) (cuts := []) (ttCe (hc_137 hm) (ttCo)) hm rfl (by decide +kernel) (by decide +kernel)
abbrev w_chanceOf : ttCon := c_161
theorem hw_chanceOf {XX : xH → Prop} (hm : ttM_0 XX) : ttHas XX w_chanceOf := hc_161 hm
/-- LastCloudModel.fastOf -/
def c_162 : ttCon := (261, 1, [(2, (0, 183, (9, 0, 0))), (0, (1, 0, (0, 1, 2000)))], [], [(1, 0, (0, (-1), 5))], [], true, [])
def c_162_4 : Nat × ttCtA := (4, [(2, (0, 183, (9, 0, 0))), (0, (1, 0, (0, 1, 2000))), (0, (1, 0, (0, (-1), 5))), (0, (1, 0, (0, 0, 6))), (9, (1, 0, (9, 0, 0))), (9, (1, 0, (9, 0, 0)))], [], 6, [((-1), (1, 3), (-1))], [0, 1])
theorem hc_162 {XX : xH → Prop} (hm : ttM_0 XX) : ttHas XX c_162 := ttMet_ok (ev := ([], c_162.2.2.2.2.2.2, ttFF)) (n := 58) (cuts := [c_162_4]) (ttCo) hm rfl (by decide +kernel) (by decide +kernel)
abbrev w_fastOf : ttCon := c_162
theorem hw_fastOf {XX : xH → Prop} (hm : ttM_0 XX) : ttHas XX w_fastOf := hc_162 hm
/-- LastCloudModel.mixed -/
def c_163 : ttCon := (270, 5, [(2, (0, 183, (9, 0, 0))), (2, (0, 195, (9, 0, 0))), (0, (1, 0, (0, 0, 7))), (0, (1, 0, (0, 0, 60))), (0, (1, 0, (0, 0, 47))), (0, (1, 0, (0, 0, 1)))], [], [(1, 0, (0, (-2147483648), 2147483647))], [], true, [])
theorem hc_163 {XX : xH → Prop} (hm : ttM_0 XX) : ttHas XX c_163 := ttMet_ok (ev := ([c_137], c_163.2.2.2.2.2.2, ttFF)) (n := 79) (cuts := []) (ttCe (hc_137 hm) (ttCo)) hm rfl (by decide +kernel) (by decide +kernel)
abbrev w_mixed195 : ttCon := c_163
theorem hw_mixed195 {XX : xH → Prop} (hm : ttM_0 XX) : ttHas XX w_mixed195 := hc_163 hm
/-- LastCloudModel.mixed -/
def c_164 : ttCon := (270, 5, [(2, (0, 183, (9, 0, 0))), (2, (0, 197, (9, 0, 0))), (0, (1, 0, (0, 0, 7))), (0, (1, 0, (0, 0, 60))), (0, (1, 0, (0, 0, 47))), (0, (1, 0, (0, 0, 1)))], [], [(1, 0, (0, (-2147483648), 2147483647))], [], true, [])
theorem hc_164 {XX : xH → Prop} (hm : ttM_0 XX) : ttHas XX c_164 := ttMet_ok (ev := ([c_137], c_164.2.2.2.2.2.2, ttFF)) (n := 79) (cuts := []) (ttCe (hc_137 hm) (ttCo)) hm rfl (by decide +kernel) (by decide +kernel)
abbrev w_mixed197 : ttCon := c_164
theorem hw_mixed197 {XX : xH → Prop} (hm : ttM_0 XX) : ttHas XX w_mixed197 := hc_164 hm
/-- LastCloudModel.endsBehind -/
def c_165 : ttCon := (291, 5, [(2, (0, 183, (9, 0, 0))), (0, (1, 0, (0, 0, 7))), (0, (1, 0, (0, 0, 60))), (0, (1, 0, (0, 0, 47))), (0, (1, 0, (0, 0, 1))), (0, (1, 0, (0, 0, 1)))], [], [(1, 0, (0, (-2147483648), 2147483647))], [], true, [])
theorem hc_165 {XX : xH → Prop} (hm : ttM_0 XX) : ttHas XX c_165 := ttMet_ok (ev := ([c_137], c_165.2.2.2.2.2.2, ttFF)) (n := 85) (cuts := []) (ttCe (hc_137 hm) (ttCo)) hm rfl (by decide +kernel) (by decide +kernel)
abbrev w_endsBehind : ttCon := c_165
theorem hw_endsBehind {XX : xH → Prop} (hm : ttM_0 XX) : ttHas XX w_endsBehind := hc_165 hm
/-- LastCloud.keep -/
def c_166 : ttCon := (193, 1, [(2, (0, 1, (9, 0, 0))), (0, (1, 0, (0, (-2147483648), (-1))))], [], [(0, (-2), (9, 0, 0))], [], true, [])
theorem hc_166 {XX : xH → Prop} (hm : ttM_0 XX) : ttHas XX c_166 := ttMet_ok (ev := ([], c_166.2.2.2.2.2.2, ttFF)) (n := 9) (cuts := []) (ttCo) hm rfl (by decide +kernel) (by decide +kernel)
abbrev w_keepLo : ttCon := c_166
theorem hw_keepLo {XX : xH → Prop} (hm : ttM_0 XX) : ttHas XX w_keepLo := hc_166 hm
/-- LastCloud.keep -/
def c_167 : ttCon := (193, 4, [(2, (0, 1, (9, 0, 0))), (0, (1, 0, (0, 0, 2)))], [], [(0, 0, (9, 0, 0))], [], true, [(7, 4, 18), (10, 0, 0), (11, 0, 5), (12, 0, 5), (13, 0, 0), (14, 0, 19), (15, 0, 19), (16, 0, 6), (24, 0, 5), (62, 0, 2)])
theorem hc_167 {XX : xH → Prop} (hm : ttM_0 XX) : ttHas XX c_167 := ttMet_ok (ev := ([c_122], c_167.2.2.2.2.2.2, ttFF)) (n := 24) (cuts := []) (ttCe (hc_122 hm) (ttCo)) hm rfl (by decide +kernel) (by decide +kernel)
abbrev w_keepMid : ttCon := c_167
theorem hw_keepMid {XX : xH → Prop} (hm : ttM_0 XX) : ttHas XX w_keepMid := hc_167 hm
/-- LastCloud.keep -/
def c_168 : ttCon := (193, 1, [(2, (0, 1, (9, 0, 0))), (0, (1, 0, (0, 3, 2147483647)))], [], [(0, (-2), (9, 0, 0))], [], true, [])
theorem hc_168 {XX : xH → Prop} (hm : ttM_0 XX) : ttHas XX c_168 := ttMet_ok (ev := ([], c_168.2.2.2.2.2.2, ttFF)) (n := 12) (cuts := []) (ttCo) hm rfl (by decide +kernel) (by decide +kernel)
abbrev w_keepHi : ttCon := c_168
theorem hw_keepHi {XX : xH → Prop} (hm : ttM_0 XX) : ttHas XX w_keepHi := hc_168 hm
/-- Reader.lineKind -/
def c_169 : ttCon := (84, 7, [(2, (0, 3, (9, 0, 0)))], [((0, 3), 9, (1, 0, (1, 7, 0)))], [(1, 0, (0, (-1), 10))], [], true, [])
theorem hc_169 {XX : xH → Prop} (hm : ttM_1 XX) : ttHas XX c_169 := ttMet_ok (ev := ([m_isWord], c_169.2.2.2.2.2.2, ttFF)) (n := 52) (cuts := []) (ttCe (hm.2) (ttCo)) hm.1 rfl (by decide +kernel) (by decide +kernel)
/-- Reader.takeIf -/
def c_170 : ttCon := (78, 7, [(2, (0, 3, (9, 0, 0))), (2, (1, 0, (0, (-28), (-2))))], [((0, 3), 9, (1, 0, (1, 7, 0)))], [(1, 0, (0, 0, 1))], [], true, [(3, 5, 5)])
theorem hc_170 {XX : xH → Prop} (hm : ttM_1 XX) : ttHas XX c_170 := ttMet_ok (ev := ([m_isWord, c_15], c_170.2.2.2.2.2.2, ttFF)) (n := 16) (cuts := []) (ttCe (hm.2) (ttCe (hc_15 hm.1) (ttCo))) hm.1 rfl (by decide +kernel) (by decide +kernel)
/-- Reader.takeWord -/
def c_171 : ttCon := (79, 7, [(2, (0, 3, (9, 0, 0))), (2, (1, 0, (0, (-28), (-2))))], [((0, 3), 9, (1, 0, (1, 7, 0)))], [(0, 0, (9, 0, 0))], [], true, [(3, 5, 7)])
theorem hc_171 {XX : xH → Prop} (hm : ttM_1 XX) : ttHas XX c_171 := ttMet_ok (ev := ([m_isWord, c_13, c_15], c_171.2.2.2.2.2.2, ttFF)) (n := 16) (cuts := []) (ttCe (hm.2) (ttCe (hc_13 hm.1) (ttCe (hc_15 hm.1) (ttCo)))) hm.1 rfl (by decide +kernel) (by decide +kernel)
/-- Reader.readPlace -/
def c_172 : ttCon := (87, 8, [(2, (0, 3, (9, 0, 0)))], [((0, 3), 9, (1, 0, (1, 7, 0)))], [(0, 0, (9, 0, 0))], [], true, [(3, 5, 7), (7, 4, 4), (7, 14, 14), (16, 0, 1)])
theorem hc_172 {XX : xH → Prop} (hm : ttM_1 XX) : ttHas XX c_172 := ttMet_ok (ev := ([m_isWord, c_14, c_170, c_171, c_16, c_17], c_172.2.2.2.2.2.2, ttFF)) (n := 75) (cuts := []) (ttCe (hm.2) (ttCe (hc_14 hm.1) (ttCe (hc_170 hm) (ttCe (hc_171 hm) (ttCe (hc_16 hm.1) (ttCe (hc_17 hm.1) (ttCo))))))) hm.1 rfl (by decide +kernel) (by decide +kernel)
/-- Reader.takeSigned -/
def c_173 : ttCon := (81, 7, [(2, (0, 3, (9, 0, 0))), (0, (0, 60, (9, 0, 0)))], [((0, 3), 9, (1, 0, (1, 7, 0)))], [(1, 0, (0, (-60), 60))], [], true, [(3, 5, 7)])
theorem hc_173 {XX : xH → Prop} (hm : ttM_1 XX) : ttHas XX c_173 := ttMet_ok (ev := ([m_isWord, c_15, c_20], c_173.2.2.2.2.2.2, ttFF)) (n := 24) (cuts := []) (ttCe (hm.2) (ttCe (hc_15 hm.1) (ttCe (hc_20 hm.1) (ttCo)))) hm.1 rfl (by decide +kernel) (by decide +kernel)
/-- Reader.takeSigned -/
def c_174 : ttCon := (81, 7, [(2, (0, 3, (9, 0, 0))), (0, (0, 999, (9, 0, 0)))], [((0, 3), 9, (1, 0, (1, 7, 0)))], [(1, 0, (0, (-999), 999))], [], true, [(3, 5, 7)])
theorem hc_174 {XX : xH → Prop} (hm : ttM_1 XX) : ttHas XX c_174 := ttMet_ok (ev := ([m_isWord, c_15, c_17], c_174.2.2.2.2.2.2, ttFF)) (n := 24) (cuts := []) (ttCe (hm.2) (ttCe (hc_15 hm.1) (ttCe (hc_17 hm.1) (ttCo)))) hm.1 rfl (by decide +kernel) (by decide +kernel)
/-- Reader.readLeg -/
def c_175 : ttCon := (88, 8, [(2, (0, 3, (9, 0, 0)))], [((0, 3), 9, (1, 0, (1, 7, 0)))], [(0, 0, (9, 0, 0))], [], true, [(3, 5, 7), (7, 5, 5), (24, 0, 5)])
theorem hc_175 {XX : xH → Prop} (hm : ttM_1 XX) : ttHas XX c_175 := ttMet_ok (ev := ([c_170, c_171, c_18, c_19, c_173, c_174, c_22, c_23], c_175.2.2.2.2.2.2, ttFF)) (n := 89) (cuts := []) (ttCe (hc_170 hm) (ttCe (hc_171 hm) (ttCe (hc_18 hm.1) (ttCe (hc_19 hm.1) (ttCe (hc_173 hm) (ttCe (hc_174 hm) (ttCe (hc_22 hm.1) (ttCe (hc_23 hm.1) (ttCo))))))))) hm.1 rfl (by decide +kernel) (by decide +kernel)
/-- Reader.readRest -/
def c_176 : ttCon := (86, 9, [(2, (0, 3, (9, 0, 0))), (0, (1, 0, (0, 0, 1)))], [((0, 3), 9, (1, 0, (1, 7, 0)))], [(0, 0, (9, 0, 0))], [], true, [(3, 5, 7), (7, 4, 5), (7, 14, 14), (16, 0, 1), (24, 0, 5)])
theorem hc_176 {XX : xH → Prop} (hm : ttM_1 XX) : ttHas XX c_176 := ttMet_ok (ev := ([c_172, c_175], c_176.2.2.2.2.2.2, ttFF)) (n := 14) (cuts := []) (ttCe (hc_172 hm) (ttCe (hc_175 hm) (ttCo))) hm.1 rfl (by decide +kernel) (by decide +kernel)
/-- Reader.readLift -/
def c_177 : ttCon := (89, 8, [(2, (0, 3, (9, 0, 0)))], [((0, 3), 9, (1, 0, (1, 7, 0)))], [(0, 0, (9, 0, 0))], [], true, [(3, 5, 7), (16, 2, 6)])
theorem hc_177 {XX : xH → Prop} (hm : ttM_1 XX) : ttHas XX c_177 := ttMet_ok (ev := ([c_32, c_170, c_171, c_33, c_34, c_35], c_177.2.2.2.2.2.2, ttFF)) (n := 84) (cuts := []) (ttCe (hc_32 hm.1) (ttCe (hc_170 hm) (ttCe (hc_171 hm) (ttCe (hc_33 hm.1) (ttCe (hc_34 hm.1) (ttCe (hc_35 hm.1) (ttCo))))))) hm.1 rfl (by decide +kernel) (by decide +kernel)
/-- Reader.readRest -/
def c_178 : ttCon := (86, 9, [(2, (0, 3, (9, 0, 0))), (0, (1, 0, (0, 0, 10)))], [((0, 3), 9, (1, 0, (1, 7, 0)))], [(0, 0, (9, 0, 0))], [], true, [(3, 5, 8), (7, 4, 5), (7, 7, 18), (10, 0, 0), (11, 0, 5), (12, 0, 5), (16, 0, 6), (24, 0, 5)])
theorem hc_178 {XX : xH → Prop} (hm : ttM_1 XX) : ttHas XX c_178 := ttMet_ok (ev := ([c_170, c_171, c_24, c_20, c_25, c_17, c_26, c_27, c_28, c_29, c_30, c_31, c_22, c_172, c_175, c_177], c_178.2.2.2.2.2.2, ttFF)) (n := 60) (cuts := []) (ttCe (hc_170 hm) (ttCe (hc_171 hm) (ttCe (hc_24 hm.1) (ttCe (hc_20 hm.1) (ttCe (hc_25 hm.1) (ttCe (hc_17 hm.1) (ttCe (hc_26 hm.1) (ttCe (hc_27 hm.1) (ttCe (hc_28 hm.1) (ttCe (hc_29 hm.1) (ttCe (hc_30 hm.1) (ttCe (hc_31 hm.1) (ttCe (hc_22 hm.1) (ttCe (hc_172 hm) (ttCe (hc_175 hm) (ttCe (hc_177 hm) (ttCo))))))))))))))))) hm.1 rfl (by decide +kernel) (by decide +kernel)
/-- Reader.readRest -/
def c_179 : ttCon := (86, 9, [(2, (0, 3, (9, 0, 0))), (0, (1, 0, (0, 0, 3)))], [((0, 3), 9, (1, 0, (1, 7, 0)))], [(0, 0, (9, 0, 0))], [], true, [(3, 5, 7), (7, 4, 5), (7, 14, 14), (10, 0, 0), (11, 0, 5), (12, 0, 5), (16, 0, 6), (24, 0, 5)])
theorem hc_179 {XX : xH → Prop} (hm : ttM_1 XX) : ttHas XX c_179 := ttMet_ok (ev := ([c_171, c_28, c_29, c_172, c_175, c_177], c_179.2.2.2.2.2.2, ttFF)) (n := 60) (cuts := []) (ttCe (hc_171 hm) (ttCe (hc_28 hm.1) (ttCe (hc_29 hm.1) (ttCe (hc_172 hm) (ttCe (hc_175 hm) (ttCe (hc_177 hm) (ttCo))))))) hm.1 rfl (by decide +kernel) (by decide +kernel)
/-- Reader.readRest -/
def c_180 : ttCon := (86, 9, [(2, (0, 3, (9, 0, 0))), (0, (1, 0, (0, 0, 5)))], [((0, 3), 9, (1, 0, (1, 7, 0)))], [(0, 0, (9, 0, 0))], [], true, [(3, 5, 8), (7, 4, 5), (7, 7, 7), (7, 14, 14), (7, 18, 18), (10, 0, 0), (11, 0, 5), (12, 0, 5), (16, 0, 6), (24, 0, 5)])
theorem hc_180 {XX : xH → Prop} (hm : ttM_1 XX) : ttHas XX c_180 := ttMet_ok (ev := ([c_171, c_17, c_28, c_29, c_31, c_172, c_175, c_177], c_180.2.2.2.2.2.2, ttFF)) (n := 60) (cuts := []) (ttCe (hc_171 hm) (ttCe (hc_17 hm.1) (ttCe (hc_28 hm.1) (ttCe (hc_29 hm.1) (ttCe (hc_31 hm.1) (ttCe (hc_172 hm) (ttCe (hc_175 hm) (ttCe (hc_177 hm) (ttCo))))))))) hm.1 rfl (by decide +kernel) (by decide +kernel)
/-- Reader.readLine -/
def c_181 : ttCon := (83, 10, [(2, (0, 3, (9, 0, 0)))], [((0, 3), 9, (1, 0, (1, 7, 0)))], [(0, 0, (9, 0, 0))], [], true, [(3, 5, 8), (7, 4, 18), (10, 0, 0), (11, 0, 5), (12, 0, 5), (16, 0, 6), (24, 0, 5)])
theorem hc_181 {XX : xH → Prop} (hm : ttM_1 XX) : ttHas XX c_181 := ttMet_ok (ev := ([c_13, c_14, c_15, c_169, c_176, c_178, c_179, c_180], c_181.2.2.2.2.2.2, ttFF)) (n := 107) (cuts := []) (ttCe (hc_13 hm.1) (ttCe (hc_14 hm.1) (ttCe (hc_15 hm.1) (ttCe (hc_169 hm) (ttCe (hc_176 hm) (ttCe (hc_178 hm) (ttCe (hc_179 hm) (ttCe (hc_180 hm) (ttCo))))))))) hm.1 rfl (by decide +kernel) (by decide +kernel)
/-- Reader.readAll -/
def c_182 : ttCon := (71, 11, [(2, (0, 3, (9, 0, 0))), (0, (1, 0, (0, 0, 1600))), (2, (1, 0, (1, 7, 0)))], [], [(1, 0, (0, (-2147483648), 2147483647))], [], true, [(3, 4, 9), (4, 0, 1600), (5, 0, 1600), (6, 0, 1600), (7, 4, 18), (10, 0, 0), (11, 0, 5), (12, 0, 5), (16, 0, 6), (24, 0, 5)])
def c_182_22 : Nat × ttCtA := (22, [(2, (0, 3, (9, 0, 0))), (0, (1, 0, (0, 0, 1600))), (2, (1, 0, (1, 7, 0))), (0, (1, 0, (0, 0, 1601)))], [((0, 3), 9, (1, 0, (10, 2, 0)))], 1601, [((-1), (1, 3), (-1))], [0, 1, 2])
theorem hc_182 {XX : xH → Prop} (hm : ttM_1 XX) : ttHas XX c_182 := ttMet_ok (ev := ([c_12, c_181], c_182.2.2.2.2.2.2, ttFF)) (n := 63) (cuts := [c_182_22]) (ttCe (hc_12 hm.1) (ttCe (hc_181 hm) (ttCo))) hm.1 rfl (by decide +kernel) (by decide +kernel)
/-- LastCloud.sky -/
def c_183 : ttCon := (136, 12, [(2, (0, 1, (9, 0, 0)))], [], [(1, 0, (0, (-2147483648), 2147483647))], [((0, 1), 1, (0, 0, (9, 0, 0)))], true, [(1, 1, 1), (1, 3, 6), (3, 4, 9), (4, 0, 1600), (5, 0, 1600), (6, 0, 1600), (7, 4, 18), (10, 0, 0), (11, 0, 5), (12, 0, 5), (13, 0, 0), (16, 0, 6), (24, 0, 5), (63, 6, 6), (64, 0, 16), (65, 0, 239), (66, 0, 239), (67, 0, 239), (68, 0, 239), (69, 0, 239), (70, 0, 15), (210, 9, 9)])
theorem hc_183 {XX : xH → Prop} (hm : ttM_1 XX) : ttHas XX c_183 := ttMet_ok (ev := ([c_3, c_4, c_11, c_182], c_183.2.2.2.2.2.2, ttFF)) (n := 49) (cuts := []) (ttCe (hc_3 hm.1) (ttCe (hc_4 hm.1) (ttCe (hc_11 hm.1) (ttCe (hc_182 hm) (ttCo))))) hm.1 rfl (by decide +kernel) (by decide +kernel)
/-- LastCloud.worth -/
def c_184 : ttCon := (155, 8, [(2, (0, 1, (9, 0, 0))), (0, (1, 0, (0, (-2147483648), 2147483647))), (0, (1, 0, (0, (-2147483648), 2147483647))), (0, (1, 0, (0, (-2147483648), 2147483647))), (0, (1, 0, (0, (-2147483648), 2147483647))), (0, (1, 0, (0, 0, 1))), (0, (1, 0, (0, 0, 1)))], [], [(1, 0, (0, (-2147483648), 2147483647))], [], false, [(73, 0, 4), (210, 0, 14), (211, 0, 46847), (212, 0, 46847), (213, 0, 46847), (214, 0, 46847), (215, 0, 46847), (216, 0, 239), (217, 0, 7), (218, 0, 7), (219, 0, 7)])
theorem hc_184 {XX : xH → Prop} (hm : ttM_2 XX) : ttHas XX c_184 := ttMet_ok (ev := ([m_planOf, c_60, c_70], c_184.2.2.2.2.2.2, ttFF)) (n := 104) (cuts := []) (ttCe (hm.2) (ttCe (hc_60 hm.1.1) (ttCe (hc_70 hm.1.1) (ttCo)))) hm.1.1 rfl (by decide +kernel) (by decide +kernel)
/-- LastCloud.deed -/
def c_185 : ttCon := (156, 8, [(2, (0, 1, (9, 0, 0))), (0, (1, 0, (0, (-2147483648), 2147483647))), (0, (1, 0, (0, (-2147483648), 2147483647))), (0, (1, 0, (0, (-2147483648), 2147483647))), (0, (1, 0, (0, (-2147483648), 2147483647))), (0, (1, 0, (0, 0, 1))), (0, (1, 0, (0, 0, 1)))], [], [(1, 0, (0, (-1000), 998))], [], false, [(73, 0, 4), (210, 0, 14), (211, 0, 46847), (212, 0, 46847), (213, 0, 46847), (214, 0, 46847), (215, 0, 46847), (216, 0, 239), (217, 0, 7), (218, 0, 7), (219, 0, 7)])
theorem hc_185 {XX : xH → Prop} (hm : ttM_2 XX) : ttHas XX c_185 := ttMet_ok (ev := ([m_planOf, c_71, c_70], c_185.2.2.2.2.2.2, ttFF)) (n := 104) (cuts := []) (ttCe (hm.2) (ttCe (hc_71 hm.1.1) (ttCe (hc_70 hm.1.1) (ttCo)))) hm.1.1 rfl (by decide +kernel) (by decide +kernel)
/-- LastCloud.home -/
def c_186 : ttCon := (157, 8, [(2, (0, 1, (9, 0, 0))), (0, (1, 0, (0, (-2147483648), 2147483647))), (0, (1, 0, (0, (-2147483648), 2147483647))), (0, (1, 0, (0, (-2147483648), 2147483647))), (0, (1, 0, (0, (-2147483648), 2147483647))), (0, (1, 0, (0, 0, 1))), (0, (1, 0, (0, 0, 1)))], [], [(1, 0, (0, (-2147483648), 2147483647))], [], false, [(73, 0, 4), (210, 0, 14), (211, 0, 46847), (212, 0, 46847), (213, 0, 46847), (214, 0, 46847), (215, 0, 46847), (216, 0, 239), (217, 0, 7), (218, 0, 7), (219, 0, 7)])
theorem hc_186 {XX : xH → Prop} (hm : ttM_2 XX) : ttHas XX c_186 := ttMet_ok (ev := ([m_planOf, c_66, c_70], c_186.2.2.2.2.2.2, ttFF)) (n := 104) (cuts := []) (ttCe (hm.2) (ttCe (hc_66 hm.1.1) (ttCe (hc_70 hm.1.1) (ttCo)))) hm.1.1 rfl (by decide +kernel) (by decide +kernel)
/-- LastCloud.start -/
def c_187 : ttCon := (161, 8, [(2, (0, 1, (9, 0, 0))), (0, (1, 0, (0, (-2147483648), 2147483647)))], [], [(1, 0, (0, (-2147483648), 2147483647))], [], false, [(73, 0, 4), (210, 0, 14), (211, 0, 46847), (212, 0, 46847), (213, 0, 46847), (214, 0, 46847), (215, 0, 46847), (216, 0, 239), (217, 0, 7), (218, 0, 7), (219, 0, 7)])
theorem hc_187 {XX : xH → Prop} (hm : ttM_2 XX) : ttHas XX c_187 := ttMet_ok (ev := ([m_planOf, c_72, c_74], c_187.2.2.2.2.2.2, ttFF)) (n := 42) (cuts := []) (ttCe (hm.2) (ttCe (hc_72 hm.1.1) (ttCe (hc_74 hm.1.1) (ttCo)))) hm.1.1 rfl (by decide +kernel) (by decide +kernel)
/-- LastCloud.cost -/
def c_188 : ttCon := (162, 8, [(2, (0, 1, (9, 0, 0))), (0, (1, 0, (0, (-2147483648), 2147483647)))], [], [(1, 0, (0, (-2147483648), 2147483647))], [], false, [(73, 0, 4), (210, 0, 14), (211, 0, 46847), (212, 0, 46847), (213, 0, 46847), (214, 0, 46847), (215, 0, 46847), (216, 0, 239), (217, 0, 7), (218, 0, 7), (219, 0, 7)])
theorem hc_188 {XX : xH → Prop} (hm : ttM_2 XX) : ttHas XX c_188 := ttMet_ok (ev := ([m_planOf, c_72, c_74], c_188.2.2.2.2.2.2, ttFF)) (n := 45) (cuts := []) (ttCe (hm.2) (ttCe (hc_72 hm.1.1) (ttCe (hc_74 hm.1.1) (ttCo)))) hm.1.1 rfl (by decide +kernel) (by decide +kernel)
/-- LastCloud.leastToLeave -/
def c_189 : ttCon := (165, 8, [(2, (0, 1, (9, 0, 0))), (0, (1, 0, (0, (-2147483648), 2147483647))), (0, (1, 0, (0, (-2147483648), 2147483647))), (0, (1, 0, (0, 0, 1))), (0, (1, 0, (0, 0, 1)))], [], [(1, 0, (0, (-2), 60))], [], false, [(73, 0, 4), (210, 0, 14), (211, 0, 46847), (212, 0, 46847), (213, 0, 46847), (214, 0, 46847), (215, 0, 46847), (216, 0, 239), (217, 0, 7), (218, 0, 7), (219, 0, 7)])
def c_189_27 : Nat × ttCtA := (27, [(2, (0, 1, (9, 0, 0))), (0, (1, 0, (0, 0, 7))), (0, (1, 0, (0, 0, 47))), (0, (1, 0, (0, 0, 1))), (0, (1, 0, (0, 0, 1))), (2, (1, 0, (1, 210, 0))), (0, (1, 0, (0, 0, 61)))], [((0, 1), 5, (1, 0, (1, 7, 0))), ((3, 5), 4, (1, 0, (0, 1, 8)))], 61, [((-1), (1, 6), (-1))], [0, 1, 2, 3, 4])
theorem hc_189 {XX : xH → Prop} (hm : ttM_2 XX) : ttHas XX c_189 := ttMet_ok (ev := ([m_planOf, c_71, c_70], c_189.2.2.2.2.2.2, ttFF)) (n := 77) (cuts := [c_189_27]) (ttCe (hm.2) (ttCe (hc_71 hm.1.1) (ttCe (hc_70 hm.1.1) (ttCo)))) hm.1.1 rfl (by decide +kernel) (by decide +kernel)
/-- LastCloud.leave -/
def c_190 : ttCon := (163, 9, [(2, (0, 1, (9, 0, 0))), (0, (1, 0, (0, (-2147483648), 2147483647))), (0, (1, 0, (0, (-2147483648), 2147483647))), (0, (1, 0, (0, 0, 1)))], [], [(1, 0, (0, (-2), 60))], [], false, [(73, 0, 4), (210, 0, 14), (211, 0, 46847), (212, 0, 46847), (213, 0, 46847), (214, 0, 46847), (215, 0, 46847), (216, 0, 239), (217, 0, 7), (218, 0, 7), (219, 0, 7)])
theorem hc_190 {XX : xH → Prop} (hm : ttM_2 XX) : ttHas XX c_190 := ttMet_ok (ev := ([c_189], c_190.2.2.2.2.2.2, ttFF)) (n := 12) (cuts := []) (ttCe (hc_189 hm) (ttCo)) hm.1.1 rfl (by decide +kernel) (by decide +kernel)
/-- LastCloud.on -/
def c_191 : ttCon := (164, 9, [(2, (0, 1, (9, 0, 0))), (0, (1, 0, (0, (-2147483648), 2147483647))), (0, (1, 0, (0, (-2147483648), 2147483647))), (0, (1, 0, (0, 0, 1)))], [], [(1, 0, (0, (-2), 60))], [], false, [(73, 0, 4), (210, 0, 14), (211, 0, 46847), (212, 0, 46847), (213, 0, 46847), (214, 0, 46847), (215, 0, 46847), (216, 0, 239), (217, 0, 7), (218, 0, 7), (219, 0, 7)])
theorem hc_191 {XX : xH → Prop} (hm : ttM_2 XX) : ttHas XX c_191 := ttMet_ok (ev := ([c_189], c_191.2.2.2.2.2.2, ttFF)) (n := 12) (cuts := []) (ttCe (hc_189 hm) (ttCo)) hm.1.1 rfl (by decide +kernel) (by decide +kernel)
/-- LastCloud.last -/
def c_192 : ttCon := (166, 8, [(2, (0, 1, (9, 0, 0))), (0, (1, 0, (0, (-2147483648), 2147483647))), (0, (1, 0, (0, (-2147483648), 2147483647)))], [], [(1, 0, (0, (-2), 47))], [], false, [(73, 0, 4), (210, 0, 14), (211, 0, 46847), (212, 0, 46847), (213, 0, 46847), (214, 0, 46847), (215, 0, 46847), (216, 0, 239), (217, 0, 7), (218, 0, 7), (219, 0, 7)])
def c_192_18 : Nat × ttCtA := (18, [(2, (0, 1, (9, 0, 0))), (0, (1, 0, (0, 0, 7))), (0, (1, 0, (0, 0, 60))), (2, (1, 0, (1, 210, 0))), (0, (1, 0, (0, (-1), 47)))], [((0, 1), 5, (1, 0, (1, 7, 0))), ((3, 5), 4, (1, 0, (0, 1, 8)))], 1, [(1, (1, 4), (-1))], [0, 1, 2])
theorem hc_192 {XX : xH → Prop} (hm : ttM_2 XX) : ttHas XX c_192 := ttMet_ok (ev := ([m_planOf, c_66, c_70], c_192.2.2.2.2.2.2, ttFF)) (n := 65) (cuts := [c_192_18]) (ttCe (hm.2) (ttCe (hc_66 hm.1.1) (ttCe (hc_70 hm.1.1) (ttCo)))) hm.1.1 rfl (by decide +kernel) (by decide +kernel)
/-- LastCloud.ends -/
def c_193 : ttCon := (168, 8, [(2, (0, 1, (9, 0, 0))), (0, (1, 0, (0, (-2147483648), 2147483647))), (0, (1, 0, (0, 0, 1)))], [], [(1, 0, (0, (-2147483648), 2147483647))], [], false, [(73, 0, 4), (74, 1, 4), (75, 0, 46847), (210, 0, 14), (211, 0, 46847), (212, 0, 46847), (213, 0, 46847), (214, 0, 46847), (215, 0, 46847), (216, 0, 239), (217, 0, 7), (218, 0, 7), (219, 0, 7)])
theorem hc_193 {XX : xH → Prop} (hm : ttM_2 XX) : ttHas XX c_193 := ttMet_ok (ev := ([m_planOf, c_72, c_82, c_73], c_193.2.2.2.2.2.2, ttFF)) (n := 55) (cuts := []) (ttCe (hm.2) (ttCe (hc_72 hm.1.1) (ttCe (hc_82 hm.1.1) (ttCe (hc_73 hm.1.1) (ttCo))))) hm.1.1 rfl (by decide +kernel) (by decide +kernel)
/-- LastCloud.bestStartWorth -/
def c_194 : ttCon := (173, 8, [(2, (0, 1, (9, 0, 0)))], [], [(1, 0, (0, (-2147483648), 2147483647))], [], false, [(73, 0, 4), (210, 0, 14), (211, 0, 46847), (212, 0, 46847), (213, 0, 46847), (214, 0, 46847), (215, 0, 46847), (216, 0, 239), (217, 0, 7), (218, 0, 7), (219, 0, 7)])
theorem hc_194 {XX : xH → Prop} (hm : ttM_2 XX) : ttHas XX c_194 := ttMet_ok (ev := ([m_planOf, c_72, c_74], c_194.2.2.2.2.2.2, ttFF)) (n := 13) (cuts := []) (ttCe (hm.2) (ttCe (hc_72 hm.1.1) (ttCe (hc_74 hm.1.1) (ttCo)))) hm.1.1 rfl (by decide +kernel) (by decide +kernel)
/-- LastCloud.water -/
def c_195 : ttCon := (175, 8, [(2, (0, 1, (9, 0, 0)))], [], [(1, 0, (0, (-2147483648), 2147483647))], [], false, [(73, 0, 4), (210, 0, 14), (211, 0, 46847), (212, 0, 46847), (213, 0, 46847), (214, 0, 46847), (215, 0, 46847), (216, 0, 239), (217, 0, 7), (218, 0, 7), (219, 0, 7)])
theorem hc_195 {XX : xH → Prop} (hm : ttM_2 XX) : ttHas XX c_195 := ttMet_ok (ev := ([m_planOf, c_74], c_195.2.2.2.2.2.2, ttFF)) (n := 39) (cuts := []) (ttCe (hm.2) (ttCe (hc_74 hm.1.1) (ttCo))) hm.1.1 rfl (by decide +kernel) (by decide +kernel)
/-- LastCloud.drop -/
def c_196 : ttCon := (176, 8, [(2, (0, 1, (9, 0, 0)))], [], [(1, 0, (0, (-2147483648), 2147483647))], [], false, [(73, 0, 4), (76, 6, 15), (82, 0, 7), (210, 0, 14), (211, 0, 46847), (212, 0, 46847), (213, 0, 46847), (214, 0, 46847), (215, 0, 46847), (216, 0, 239), (217, 0, 7), (218, 0, 7), (219, 0, 7)])
def c_196_25 : Nat × ttCtA := (25, [(2, (0, 1, (9, 0, 0))), (2, (1, 0, (1, 210, 0))), (0, (1, 0, (0, 0, 100))), (9, (1, 0, (9, 0, 0)))], [((0, 1), 5, (1, 0, (1, 7, 0))), ((0, 83), 7, (1, 0, (1, 7, 0))), ((0, 83), 9, (1, 0, (0, 1, 1))), ((3, 5), 4, (1, 0, (0, 1, 8))), ((3, 5), 15, (1, 0, (0, 0, 7)))], 100, [((-1), (1, 2), (-1))], [0])
theorem hc_196 {XX : xH → Prop} (hm : ttM_2 XX) : ttHas XX c_196 := ttMet_ok (ev := ([m_planOf, c_72, c_89, c_90, c_73, c_93], c_196.2.2.2.2.2.2, ttFF)) (n := 60) (cuts := [c_196_25]) (ttCe (hm.2) (ttCe (hc_72 hm.1.1) (ttCe (hc_89 hm.1.1) (ttCe (hc_90 hm.1.1) (ttCe (hc_73 hm.1.1) (ttCe (hc_93 hm.1.1) (ttCo))))))) hm.1.1 rfl (by decide +kernel) (by decide +kernel)
/-- LastCloud.fly -/
def c_197 : ttCon := (177, 9, [(2, (0, 1, (9, 0, 0))), (0, (1, 0, (0, (-2147483648), 2147483647))), (0, (1, 0, (0, (-2147483648), 2147483647)))], [], [(1, 0, (0, (-2), 100))], [], false, [(73, 0, 4), (76, 6, 17), (77, 0, 99), (78, 0, 99), (79, 0, 99), (80, 0, 99), (81, 0, 99), (82, 0, 7), (210, 0, 14), (211, 0, 46847), (212, 0, 46847), (213, 0, 46847), (214, 0, 46847), (215, 0, 46847), (216, 0, 239), (217, 0, 7), (218, 0, 7), (219, 0, 7)])
theorem hc_197 {XX : xH → Prop} (hm : ttM_2 XX) : ttHas XX c_197 := ttMet_ok (ev := ([m_planOf, c_72, c_73, c_99], c_197.2.2.2.2.2.2, ttFF)) (n := 72) (cuts := []) (ttCe (hm.2) (ttCe (hc_72 hm.1.1) (ttCe (hc_73 hm.1.1) (ttCe (hc_99 hm.1.1) (ttCo))))) hm.1.1 rfl (by decide +kernel) (by decide +kernel)
/-- LastCloud.flights -/
def c_198 : ttCon := (183, 9, [(2, (0, 1, (9, 0, 0))), (0, (1, 0, (0, (-2147483648), 2147483647))), (0, (1, 0, (0, (-2147483648), 2147483647))), (0, (1, 0, (0, (-2147483648), 2147483647)))], [], [(1, 0, (0, (-2147483648), 2147483647))], [], false, [(73, 0, 4), (76, 6, 17), (77, 0, 99), (78, 0, 99), (79, 0, 99), (80, 0, 99), (81, 0, 99), (82, 0, 7), (210, 0, 14), (211, 0, 46847), (212, 0, 46847), (213, 0, 46847), (214, 0, 46847), (215, 0, 46847), (216, 0, 239), (217, 0, 7), (218, 0, 7), (219, 0, 7)])
def c_198_12 : Nat × ttCtA := (12, [(2, (0, 1, (9, 0, 0))), (0, (1, 0, (0, 0, 3))), (0, (1, 0, (0, 0, 2000000000))), (0, (1, 0, (0, 1, 40))), (0, (1, 0, (0, (-2147483648), 2147483647))), (0, (1, 0, (0, 0, 40)))], [((0, 1), 5, (1, 0, (1, 7, 0))), ((3, 5), 4, (1, 0, (0, 1, 8))), ((3, 5), 15, (1, 0, (0, 0, 7)))], 40, [((-1), (1, 5), (-1))], [0, 1, 2, 3])
theorem hc_198 {XX : xH → Prop} (hm : ttM_2 XX) : ttHas XX c_198 := ttMet_ok (ev := ([m_planOf, c_72, c_73, c_105], c_198.2.2.2.2.2.2, ttFF)) (n := 65) (cuts := [c_198_12]) (ttCe (hm.2) (ttCe (hc_72 hm.1.1) (ttCe (hc_73 hm.1.1) (ttCe (hc_105 hm.1.1) (ttCo))))) hm.1.1 rfl (by decide +kernel) (by decide +kernel)
/-- LastCloud.sum -/
def c_199 : ttCon := (185, 9, [(2, (0, 1, (9, 0, 0))), (0, (1, 0, (0, (-2147483648), 2147483647))), (0, (1, 0, (0, (-2147483648), 2147483647))), (0, (1, 0, (0, (-2147483648), 2147483647)))], [], [(1, 0, (0, (-2147483648), 2147483647))], [], false, [(73, 0, 4), (76, 6, 17), (77, 0, 99), (78, 0, 99), (79, 0, 99), (80, 0, 99), (81, 0, 99), (82, 0, 7), (210, 0, 14), (211, 0, 46847), (212, 0, 46847), (213, 0, 46847), (214, 0, 46847), (215, 0, 46847), (216, 0, 239), (217, 0, 7), (218, 0, 7), (219, 0, 7)])
def c_199_12 : Nat × ttCtA := (12, [(2, (0, 1, (9, 0, 0))), (0, (1, 0, (0, 0, 3))), (0, (1, 0, (0, 0, 2000000000))), (0, (1, 0, (0, 1, 40))), (0, (1, 0, (0, (-2147483648), 2147483647))), (0, (1, 0, (0, 0, 40)))], [((0, 1), 5, (1, 0, (1, 7, 0))), ((3, 5), 4, (1, 0, (0, 1, 8))), ((3, 5), 15, (1, 0, (0, 0, 7)))], 40, [((-1), (1, 5), (-1))], [0, 1, 2, 3])
theorem hc_199 {XX : xH → Prop} (hm : ttM_2 XX) : ttHas XX c_199 := ttMet_ok (ev := ([m_planOf, c_72, c_73, c_105], c_199.2.2.2.2.2.2, ttFF)) (n := 65) (cuts := [c_199_12]) (ttCe (hm.2) (ttCe (hc_72 hm.1.1) (ttCe (hc_73 hm.1.1) (ttCe (hc_105 hm.1.1) (ttCo))))) hm.1.1 rfl (by decide +kernel) (by decide +kernel)
/-- LastCloud.spread -/
def c_200 : ttCon := (186, 9, [(2, (0, 1, (9, 0, 0))), (0, (1, 0, (0, (-2147483648), 2147483647))), (0, (1, 0, (0, (-2147483648), 2147483647))), (0, (1, 0, (0, (-2147483648), 2147483647))), (0, (1, 0, (0, (-2147483648), 2147483647)))], [], [(1, 0, (0, (-2147483648), 2147483647))], [], false, [(73, 0, 4), (76, 6, 17), (77, 0, 99), (78, 0, 99), (79, 0, 99), (80, 0, 99), (81, 0, 99), (82, 0, 7), (210, 0, 14), (211, 0, 46847), (212, 0, 46847), (213, 0, 46847), (214, 0, 46847), (215, 0, 46847), (216, 0, 239), (217, 0, 7), (218, 0, 7), (219, 0, 7)])
def c_200_26 : Nat × ttCtA := (26, [(2, (0, 1, (9, 0, 0))), (0, (1, 0, (0, 0, 3))), (0, (1, 0, (0, 0, 2000000000))), (0, (1, 0, (0, 1, 40))), (0, (1, 0, (0, 0, 4))), (0, (1, 0, (0, (-2147483648), 2147483647))), (0, (1, 0, (0, 1, 40))), (9, (1, 0, (9, 0, 0)))], [((0, 1), 5, (1, 0, (1, 7, 0))), ((3, 5), 4, (1, 0, (0, 1, 8))), ((3, 5), 15, (1, 0, (0, 0, 7)))], 40, [((-1), (1, 6), (-1))], [0, 1, 2, 3, 4])
theorem hc_200 {XX : xH → Prop} (hm : ttM_2 XX) : ttHas XX c_200 := ttMet_ok (ev := ([m_planOf, c_72, c_73, c_105], c_200.2.2.2.2.2.2, ttFF)) (n := 105) (cuts := [c_200_26]) (ttCe (hm.2) (ttCe (hc_72 hm.1.1) (ttCe (hc_73 hm.1.1) (ttCe (hc_105 hm.1.1) (ttCo))))) hm.1.1 rfl (by decide +kernel) (by decide +kernel)
/-- LastCloud.weak -/
def c_201 : ttCon := (167, 8, [(2, (0, 1, (9, 0, 0))), (0, (1, 0, (0, (-2147483648), 2147483647))), (0, (1, 0, (0, (-2147483648), 2147483647))), (0, (1, 0, (0, (-2147483648), 2147483647)))], [], [(1, 0, (0, (-2), 2000))], [], false, [(73, 0, 4), (210, 0, 14), (211, 0, 46847), (212, 0, 46847), (213, 0, 46847), (214, 0, 46847), (215, 0, 46847), (216, 0, 239), (217, 0, 7), (218, 0, 7), (219, 0, 7)])
def c_201_27 : Nat × ttCtA := (27, [(2, (0, 1, (9, 0, 0))), (0, (1, 0, (0, 0, 7))), (0, (1, 0, (0, 0, 60))), (0, (1, 0, (0, 0, 47))), (0, (1, 0, (0, 0, 46359))), (0, (1, 0, (0, 0, 2250))), (9, (1, 0, (9, 0, 0)))], [((0, 1), 5, (1, 0, (1, 7, 0))), ((3, 5), 4, (1, 0, (0, 1, 8)))], 2250, [((-1), (1, 5), (-1))], [0, 1, 2, 3])
theorem hc_201 {XX : xH → Prop} (hm : ttM_3 XX) : ttHas XX c_201 := ttMet_ok (ev := ([m_trialPlan, c_71, c_70], c_201.2.2.2.2.2.2, ttFF)) (n := 88) (cuts := [c_201_27]) (ttCe (hm.2) (ttCe (hc_71 hm.1.1.1) (ttCe (hc_70 hm.1.1.1) (ttCo)))) hm.1.1.1 rfl (by decide +kernel) (by decide +kernel)
/-- LastCloud.startWorthWith -/
def c_202 : ttCon := (172, 8, [(2, (0, 1, (9, 0, 0))), (0, (1, 0, (0, 0, 7))), (0, (1, 0, (0, 0, 100)))], [], [(1, 0, (0, (-2147483648), 2147483647))], [], false, [(73, 0, 4), (210, 0, 14), (211, 0, 46847), (212, 0, 46847), (213, 0, 46847), (214, 0, 46847), (215, 0, 46847), (216, 0, 239), (217, 0, 7), (218, 0, 7), (219, 0, 7)])
theorem hc_202 {XX : xH → Prop} (hm : ttM_3 XX) : ttHas XX c_202 := ttMet_ok (ev := ([m_planOf, m_trialPlan, c_72, c_64, c_74], c_202.2.2.2.2.2.2, ttFF)) (n := 33) (cuts := []) (ttCe (hm.1.2) (ttCe (hm.2) (ttCe (hc_72 hm.1.1.1) (ttCe (hc_64 hm.1.1.1) (ttCe (hc_74 hm.1.1.1) (ttCo)))))) hm.1.1.1 rfl (by decide +kernel) (by decide +kernel)
/-- LastCloud.share -/
def c_203 : ttCon := (169, 9, [(2, (0, 1, (9, 0, 0))), (0, (1, 0, (0, (-2147483648), 2147483647)))], [], [(1, 0, (0, (-2147483648), 2147483647))], [], false, [(73, 0, 4), (210, 0, 14), (211, 0, 46847), (212, 0, 46847), (213, 0, 46847), (214, 0, 46847), (215, 0, 46847), (216, 0, 239), (217, 0, 7), (218, 0, 7), (219, 0, 7)])
theorem hc_203 {XX : xH → Prop} (hm : ttM_3 XX) : ttHas XX c_203 := ttMet_ok (ev := ([c_202, c_194], c_203.2.2.2.2.2.2, ttFF)) (n := 45) (cuts := []) (ttCe (hc_202 hm) (ttCe (hc_194 hm.1) (ttCo))) hm.1.1.1 rfl (by decide +kernel) (by decide +kernel)
/-- LastCloud.startWorthWith -/
def c_204 : ttCon := (172, 8, [(2, (0, 1, (9, 0, 0))), (0, (1, 0, (0, 0, 7))), (0, (1, 0, (0, 0, 1)))], [], [(1, 0, (0, (-2147483648), 2147483647))], [], false, [(73, 0, 4), (210, 0, 14), (211, 0, 46847), (212, 0, 46847), (213, 0, 46847), (214, 0, 46847), (215, 0, 46847), (216, 0, 239), (217, 0, 7), (218, 0, 7), (219, 0, 7)])
theorem hc_204 {XX : xH → Prop} (hm : ttM_3 XX) : ttHas XX c_204 := ttMet_ok (ev := ([m_planOf, m_trialPlan, c_72, c_64, c_74], c_204.2.2.2.2.2.2, ttFF)) (n := 33) (cuts := []) (ttCe (hm.1.2) (ttCe (hm.2) (ttCe (hc_72 hm.1.1.1) (ttCe (hc_64 hm.1.1.1) (ttCe (hc_74 hm.1.1.1) (ttCo)))))) hm.1.1.1 rfl (by decide +kernel) (by decide +kernel)
/-- LastCloud.known -/
def c_205 : ttCon := (170, 9, [(2, (0, 1, (9, 0, 0))), (0, (1, 0, (0, (-2147483648), 2147483647)))], [], [(1, 0, (0, (-2147483648), 2147483647))], [], false, [(73, 0, 4), (210, 0, 14), (211, 0, 46847), (212, 0, 46847), (213, 0, 46847), (214, 0, 46847), (215, 0, 46847), (216, 0, 239), (217, 0, 7), (218, 0, 7), (219, 0, 7)])
theorem hc_205 {XX : xH → Prop} (hm : ttM_3 XX) : ttHas XX c_205 := ttMet_ok (ev := ([c_42, c_204, c_202, c_194], c_205.2.2.2.2.2.2, ttFF)) (n := 72) (cuts := []) (ttCe (hc_42 hm.1.1.1) (ttCe (hc_204 hm) (ttCe (hc_202 hm) (ttCe (hc_194 hm.1) (ttCo))))) hm.1.1.1 rfl (by decide +kernel) (by decide +kernel)
/-- LastCloud.startWorthWith -/
def c_206 : ttCon := (172, 8, [(2, (0, 1, (9, 0, 0))), (0, (1, 0, (0, 0, 7))), (0, (1, 0, (0, (-2147483648), 2147483647)))], [], [(1, 0, (0, (-2147483648), 2147483647))], [], false, [(73, 0, 4), (210, 0, 14), (211, 0, 46847), (212, 0, 46847), (213, 0, 46847), (214, 0, 46847), (215, 0, 46847), (216, 0, 239), (217, 0, 7), (218, 0, 7), (219, 0, 7)])
theorem hc_206 {XX : xH → Prop} (hm : ttM_3 XX) : ttHas XX c_206 := ttMet_ok (ev := ([m_planOf, m_trialPlan, c_72, c_64, c_74], c_206.2.2.2.2.2.2, ttFF)) (n := 33) (cuts := []) (ttCe (hm.1.2) (ttCe (hm.2) (ttCe (hc_72 hm.1.1.1) (ttCe (hc_64 hm.1.1.1) (ttCe (hc_74 hm.1.1.1) (ttCo)))))) hm.1.1.1 rfl (by decide +kernel) (by decide +kernel)
/-- LastCloud.hawk -/
def c_207 : ttCon := (171, 9, [(2, (0, 1, (9, 0, 0))), (0, (1, 0, (0, (-2147483648), 2147483647)))], [], [(1, 0, (0, (-2147483648), 2147483647))], [], false, [(73, 0, 4), (210, 0, 14), (211, 0, 46847), (212, 0, 46847), (213, 0, 46847), (214, 0, 46847), (215, 0, 46847), (216, 0, 239), (217, 0, 7), (218, 0, 7), (219, 0, 7)])
theorem hc_207 {XX : xH → Prop} (hm : ttM_3 XX) : ttHas XX c_207 := ttMet_ok (ev := ([c_42, c_206, c_194, c_41], c_207.2.2.2.2.2.2, ttFF)) (n := 132) (cuts := []) (ttCe (hc_42 hm.1.1.1) (ttCe (hc_206 hm) (ttCe (hc_194 hm.1) (ttCe (hc_41 hm.1.1.1) (ttCo))))) hm.1.1.1 rfl (by decide +kernel) (by decide +kernel)
/-- LastCloudModel.sight -/
def c_208 : ttCon := (247, 3, [(2, (0, 183, (9, 0, 0))), (0, (1, 0, (0, (-2147483648), 2147483647))), (0, (1, 0, (0, (-2147483648), 2147483647)))], [], [(1, 0, (0, (-3), 20))], [], true, [(183, 22, 22), (183, 29, 29), (184, 4, 4), (184, 156, 195), (193, 0, 975)])
theorem hc_208 {XX : xH → Prop} (hm : ttM_4 XX) : ttHas XX c_208 := ttMet_ok (ev := ([m_forgets], c_208.2.2.2.2.2.2, ttFF)) (n := 92) (cuts := []) (ttCe (hm.2) (ttCo)) hm.1.1.1.1 rfl (by decide +kernel) (by decide +kernel)
/-- LastCloudModel.unsee -/
def c_209 : ttCon := (248, 2, [(2, (0, 183, (9, 0, 0))), (0, (1, 0, (0, (-2147483648), 2147483647)))], [], [(1, 0, (0, (-2), 20))], [], true, [(183, 22, 22), (183, 29, 29), (184, 4, 4), (193, 0, 975)])
theorem hc_209 {XX : xH → Prop} (hm : ttM_4 XX) : ttHas XX c_209 := ttMet_ok (ev := ([m_forgets], c_209.2.2.2.2.2.2, ttFF)) (n := 39) (cuts := []) (ttCe (hm.2) (ttCo)) hm.1.1.1.1 rfl (by decide +kernel) (by decide +kernel)
