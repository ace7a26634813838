/-! contracts by the kernel -/
/-- LastCloud.putNumber -/
def c_0 : ttCon := (134, 1, [(2, (0, 1, (9, 0, 0))), (0, (1, 0, (0, (-2147483648), 2147483647)))], [], [(0, 0, (9, 0, 0))], [], true, [(1, 1, 1), (2, 0, 1599)])
def c_0_2 : Nat × ttCtA := (2, [(2, (0, 1, (9, 0, 0))), (0, (1, 0, (0, (-2147483648), 2147483647))), (0, (1, 0, (0, (-1000), 24)))], [], 1000, [(1, (1, 2), (-1))], [0, 1])
theorem hc_0 {XX : xH → Prop} (hm : ttMan XX) : ttHas XX c_0 := ttMet_ok (ev := ([], c_0.2.2.2.2.2.2, ttFF)) (n := 29) (cuts := [c_0_2]) (ttCo) hm.1 rfl (by decide +kernel) (by decide +kernel)
/-- LastCloud.feed -/
def c_1 : ttCon := (133, 2, [(2, (0, 1, (9, 0, 0))), (0, (1, 0, (0, (-2147483648), 2147483647))), (0, (1, 0, (0, (-2147483648), 2147483647))), (0, (1, 0, (0, (-2147483648), 2147483647))), (0, (1, 0, (0, (-2147483648), 2147483647))), (0, (1, 0, (0, (-2147483648), 2147483647)))], [], [(1, 0, (0, (-1), 1600))], [], true, [(1, 1, 1), (2, 0, 1599)])
theorem hc_1 {XX : xH → Prop} (hm : ttMan XX) : ttHas XX c_1 := ttMet_ok (ev := ([c_0], c_1.2.2.2.2.2.2, ttFF)) (n := 29) (cuts := []) (ttCe (hc_0 hm) (ttCo)) hm.1 rfl (by decide +kernel) (by decide +kernel)
/-- LastCloud.end -/
def c_2 : ttCon := (135, 1, [(2, (0, 1, (9, 0, 0))), (0, (1, 0, (0, (-2147483648), 2147483647)))], [], [(1, 0, (0, (-1), 1600))], [], true, [(1, 1, 1)])
theorem hc_2 {XX : xH → Prop} (hm : ttMan XX) : ttHas XX c_2 := ttMet_ok (ev := ([], c_2.2.2.2.2.2.2, ttFF)) (n := 16) (cuts := []) (ttCo) hm.1 rfl (by decide +kernel) (by decide +kernel)
/-- Sky.clear -/
def c_3 : ttCon := (111, 2, [(2, (1, 0, (1, 7, 0)))], [], [(0, 0, (9, 0, 0))], [], true, [(7, 4, 18), (10, 0, 0), (13, 0, 0), (16, 0, 6)])
def c_3_2 : Nat × ttCtA := (2, [(2, (1, 0, (1, 7, 0))), (0, (1, 0, (0, 0, 8)))], [], 8, [((-1), (1, 1), (-1))], [0])
theorem hc_3 {XX : xH → Prop} (hm : ttMan XX) : ttHas XX c_3 := ttMet_ok (ev := ([], c_3.2.2.2.2.2.2, ttFF)) (n := 62) (cuts := [c_3_2]) (ttCo) hm.1 rfl (by decide +kernel) (by decide +kernel)
/-- LastCloud.forgetPlans -/
def c_4 : ttCon := (138, 1, [(2, (0, 1, (9, 0, 0)))], [], [(0, 0, (9, 0, 0))], [], true, [(210, 9, 9)])
def c_4_2 : Nat × ttCtA := (2, [(2, (0, 1, (9, 0, 0))), (0, (1, 0, (0, 0, 5)))], [], 5, [((-1), (1, 1), (-1))], [0])
theorem hc_4 {XX : xH → Prop} (hm : ttMan XX) : ttHas XX c_4 := ttMet_ok (ev := ([], c_4.2.2.2.2.2.2, ttFF)) (n := 24) (cuts := [c_4_2]) (ttCo) hm.1 rfl (by decide +kernel) (by decide +kernel)
/-- Sky.takes -/
def c_5 : ttCon := (124, 2, [(2, (1, 0, (1, 7, 0))), (0, (1, 0, (0, 0, 9))), (0, (1, 0, (0, 0, 1))), (0, (1, 0, (0, 0, 5))), (0, (1, 0, (0, 0, 1)))], [], [(1, 0, (0, (-2147483648), 2147483647))], [], true, [])
theorem hc_5 {XX : xH → Prop} (hm : ttMan XX) : ttHas XX c_5 := ttMet_ok (ev := ([], c_5.2.2.2.2.2.2, ttFF)) (n := 55) (cuts := []) (ttCo) hm.1 rfl (by decide +kernel) (by decide +kernel)
/-- Sky.loses -/
def c_6 : ttCon := (125, 3, [(2, (1, 0, (1, 7, 0))), (0, (1, 0, (0, 0, 9))), (0, (1, 0, (0, 0, 1))), (0, (1, 0, (0, 0, 5))), (0, (1, 0, (0, 0, 1)))], [], [(1, 0, (0, (-2147483648), 2147483647))], [], true, [])
theorem hc_6 {XX : xH → Prop} (hm : ttMan XX) : ttHas XX c_6 := ttMet_ok (ev := ([c_5], c_6.2.2.2.2.2.2, ttFF)) (n := 33) (cuts := []) (ttCe (hc_5 hm) (ttCo)) hm.1 rfl (by decide +kernel) (by decide +kernel)
/-- Hops.add -/
def c_7 : ttCon := (19, 4, [(2, (0, 63, (9, 0, 0))), (2, (1, 0, (1, 7, 0))), (0, (1, 0, (0, 0, 9))), (0, (1, 0, (0, 0, 1))), (0, (1, 0, (0, 0, 5))), (0, (1, 0, (0, 0, 1)))], [], [(0, 0, (9, 0, 0))], [], true, [(63, 6, 6), (65, 0, 239), (66, 0, 239), (67, 0, 239), (68, 0, 239), (69, 0, 239)])
theorem hc_7 {XX : xH → Prop} (hm : ttMan XX) : ttHas XX c_7 := ttMet_ok (ev := ([c_5, c_6], c_7.2.2.2.2.2.2, ttFF)) (n := 107) (cuts := []) (ttCe (hc_5 hm) (ttCe (hc_6 hm) (ttCo))) hm.1 rfl (by decide +kernel) (by decide +kernel)
/-- Hops.addFrom -/
def c_8 : ttCon := (18, 5, [(2, (0, 63, (9, 0, 0))), (2, (1, 0, (1, 7, 0))), (0, (1, 0, (0, 0, 7))), (0, (1, 0, (0, 0, 1)))], [], [(0, 0, (9, 0, 0))], [], true, [(63, 6, 6), (65, 0, 239), (66, 0, 239), (67, 0, 239), (68, 0, 239), (69, 0, 239)])
def c_8_2 : Nat × ttCtA := (2, [(2, (0, 63, (9, 0, 0))), (2, (1, 0, (1, 7, 0))), (0, (1, 0, (0, 0, 7))), (0, (1, 0, (0, 0, 1))), (0, (1, 0, (0, 0, 10))), (9, (1, 0, (9, 0, 0))), (9, (1, 0, (9, 0, 0)))], [], 87, [((-8), (1, 4), (-1))], [0, 1, 2, 3])
def c_8_21 : Nat × ttCtA := (21, [(2, (0, 63, (9, 0, 0))), (2, (1, 0, (1, 7, 0))), (0, (1, 0, (0, 0, 7))), (0, (1, 0, (0, 0, 1))), (0, (1, 0, (0, 0, 9))), (2, (1, 0, (1, 24, 0))), (0, (1, 0, (0, 0, 6)))], [((1, 1), 5, (1, 0, (0, 1, 10)))], 86, [((-8), (1, 4), (-1)), ((-1), (1, 6), (-1))], [0, 1, 2, 3])
theorem hc_8 {XX : xH → Prop} (hm : ttMan XX) : ttHas XX c_8 := ttMet_ok (ev := ([c_7], c_8.2.2.2.2.2.2, ttFF)) (n := 25) (cuts := [c_8_2, c_8_21]) (ttCe (hc_7 hm) (ttCo)) hm.1 rfl (by decide +kernel) (by decide +kernel)
/-- Hops.leastByHop -/
def c_9 : ttCon := (24, 3, [(2, (0, 63, (9, 0, 0))), (2, (1, 0, (1, 7, 0))), (0, (1, 0, (0, 0, 7))), (0, (1, 0, (0, 0, 1)))], [], [(1, 0, (0, (-2147483648), 1000000))], [], true, [])
def c_9_11 : Nat × ttCtA := (11, [(2, (0, 63, (9, 0, 0))), (2, (1, 0, (1, 7, 0))), (0, (1, 0, (0, 0, 7))), (0, (1, 0, (0, 0, 1))), (0, (1, 0, (0, (-2147483648), 1000000))), (0, (1, 0, (0, 0, 15))), (0, (1, 0, (0, 0, 240))), (9, (1, 0, (9, 0, 0))), (9, (1, 0, (9, 0, 0)))], [], 240, [((-1), (1, 6), (-1))], [0, 1, 2, 3])
theorem hc_9 {XX : xH → Prop} (hm : ttMan XX) : ttHas XX c_9 := ttMet_ok (ev := ([], c_9.2.2.2.2.2.2, ttFF)) (n := 69) (cuts := [c_9_11]) (ttCo) hm.1 rfl (by decide +kernel) (by decide +kernel)
/-- Hops.findEdges -/
def c_10 : ttCon := (23, 4, [(2, (0, 63, (9, 0, 0))), (2, (1, 0, (1, 7, 0))), (0, (1, 0, (0, 0, 1)))], [], [(0, 0, (9, 0, 0))], [], true, [(70, 0, 15)])
def c_10_2 : Nat × ttCtA := (2, [(2, (0, 63, (9, 0, 0))), (2, (1, 0, (1, 7, 0))), (0, (1, 0, (0, 0, 1))), (0, (1, 0, (0, 0, 8))), (9, (1, 0, (9, 0, 0))), (9, (1, 0, (9, 0, 0))), (9, (1, 0, (9, 0, 0)))], [], 5898, [((-1), (1, 3), (-1))], [0, 1, 2])
def c_10_29 : Nat × ttCtA := (29, [(2, (0, 63, (9, 0, 0))), (2, (1, 0, (1, 7, 0))), (0, (1, 0, (0, 0, 1))), (0, (1, 0, (0, 0, 1))), (0, (1, 0, (0, 0, 588))), (9, (1, 0, (9, 0, 0))), (9, (1, 0, (9, 0, 0)))], [], 5889, [((-10), (1, 4), (-1))], [0, 1, 2])
def c_10_38 : Nat × ttCtA := (38, [(2, (0, 63, (9, 0, 0))), (2, (1, 0, (1, 7, 0))), (0, (1, 0, (0, 0, 1))), (0, (1, 0, (0, 0, 1))), (0, (1, 0, (0, 0, 504))), (0, (1, 0, (0, 0, 8))), (9, (1, 0, (9, 0, 0)))], [], 5888, [((-10), (1, 4), (-1)), ((-1), (1, 5), (-1))], [0, 1, 2])
theorem hc_10 {XX : xH → Prop} (hm : ttMan XX) : ttHas XX c_10 := ttMet_ok (ev := ([c_9], c_10.2.2.2.2.2.2, ttFF)) (n := 62) (cuts := [c_10_2, c_10_29, c_10_38]) (ttCe (hc_9 hm) (ttCo)) hm.1 rfl (by decide +kernel) (by decide +kernel)
/-- Hops.build -/
def c_11 : ttCon := (17, 6, [(2, (0, 63, (9, 0, 0))), (2, (1, 0, (1, 7, 0)))], [], [(0, 0, (9, 0, 0))], [], true, [(63, 6, 6), (64, 0, 16), (65, 0, 239), (66, 0, 239), (67, 0, 239), (68, 0, 239), (69, 0, 239), (70, 0, 15)])
def c_11_5 : Nat × ttCtA := (5, [(2, (0, 63, (9, 0, 0))), (2, (1, 0, (1, 7, 0))), (0, (1, 0, (0, 0, 16))), (9, (1, 0, (9, 0, 0)))], [], 16, [((-1), (1, 2), (-1))], [0, 1])
theorem hc_11 {XX : xH → Prop} (hm : ttMan XX) : ttHas XX c_11 := ttMet_ok (ev := ([c_8, c_10], c_11.2.2.2.2.2.2, ttFF)) (n := 34) (cuts := [c_11_5]) (ttCe (hc_8 hm) (ttCe (hc_10 hm) (ttCo))) hm.1 rfl (by decide +kernel) (by decide +kernel)
/-- Reader.fail -/
def c_12 : ttCon := (75, 1, [(2, (0, 3, (9, 0, 0))), (0, (1, 0, (0, 0, 1)))], [((0, 3), 9, (1, 0, (1, 7, 0)))], [(0, 0, (9, 0, 0))], [], true, [(3, 6, 7)])
theorem hc_12 {XX : xH → Prop} (hm : ttMan XX) : ttHas XX c_12 := ttMet_ok (ev := ([], c_12.2.2.2.2.2.2, ttFF)) (n := 19) (cuts := []) (ttCo) hm.1 rfl (by decide +kernel) (by decide +kernel)
/-- Reader.fail -/
def c_13 : ttCon := (75, 1, [(2, (0, 3, (9, 0, 0))), (0, (1, 0, (0, 0, 3)))], [((0, 3), 9, (1, 0, (1, 7, 0)))], [(0, 0, (9, 0, 0))], [], true, [(3, 6, 7)])
theorem hc_13 {XX : xH → Prop} (hm : ttMan XX) : ttHas XX c_13 := ttMet_ok (ev := ([], c_13.2.2.2.2.2.2, ttFF)) (n := 19) (cuts := []) (ttCo) hm.1 rfl (by decide +kernel) (by decide +kernel)
/-- Reader.goOn -/
def c_14 : ttCon := (76, 1, [(2, (0, 3, (9, 0, 0)))], [((0, 3), 9, (1, 0, (1, 7, 0)))], [(0, 0, (9, 0, 0))], [], true, [(3, 5, 5)])
theorem hc_14 {XX : xH → Prop} (hm : ttMan XX) : ttHas XX c_14 := ttMet_ok (ev := ([], c_14.2.2.2.2.2.2, ttFF)) (n := 19) (cuts := []) (ttCo) hm.1 rfl (by decide +kernel) (by decide +kernel)
/-- Reader.lineKind -/
def c_15 : ttCon := (84, 7, [(2, (0, 3, (9, 0, 0)))], [((0, 3), 9, (1, 0, (1, 7, 0)))], [(1, 0, (0, (-1), 10))], [], true, [])
theorem hc_15 {XX : xH → Prop} (hm : ttMan XX) : ttHas XX c_15 := ttMet_ok (ev := ([m_1], c_15.2.2.2.2.2.2, ttFF)) (n := 52) (cuts := []) (ttCe (hm.2.2.1) (ttCo)) hm.1 rfl (by decide +kernel) (by decide +kernel)
/-- Reader.takeIf -/
def c_16 : ttCon := (78, 7, [(2, (0, 3, (9, 0, 0))), (2, (1, 0, (0, (-28), (-2))))], [((0, 3), 9, (1, 0, (1, 7, 0)))], [(1, 0, (0, 0, 1))], [], true, [(3, 5, 5)])
theorem hc_16 {XX : xH → Prop} (hm : ttMan XX) : ttHas XX c_16 := ttMet_ok (ev := ([m_1, c_14], c_16.2.2.2.2.2.2, ttFF)) (n := 16) (cuts := []) (ttCe (hm.2.2.1) (ttCe (hc_14 hm) (ttCo))) hm.1 rfl (by decide +kernel) (by decide +kernel)
/-- Reader.takeWord -/
def c_17 : ttCon := (79, 7, [(2, (0, 3, (9, 0, 0))), (2, (1, 0, (0, (-28), (-2))))], [((0, 3), 9, (1, 0, (1, 7, 0)))], [(0, 0, (9, 0, 0))], [], true, [(3, 5, 7)])
theorem hc_17 {XX : xH → Prop} (hm : ttMan XX) : ttHas XX c_17 := ttMet_ok (ev := ([m_1, c_12, c_14], c_17.2.2.2.2.2.2, ttFF)) (n := 16) (cuts := []) (ttCe (hm.2.2.1) (ttCe (hc_12 hm) (ttCe (hc_14 hm) (ttCo)))) hm.1 rfl (by decide +kernel) (by decide +kernel)
/-- Reader.takeNumber -/
def c_18 : ttCon := (80, 2, [(2, (0, 3, (9, 0, 0))), (0, (0, 0, (9, 0, 0))), (0, (0, 30, (9, 0, 0)))], [((0, 3), 9, (1, 0, (1, 7, 0)))], [(1, 0, (0, 0, 30))], [], true, [(3, 5, 7)])
def c_18_25 : Nat × ttCtA := (25, [(2, (0, 3, (9, 0, 0))), (0, (0, 0, (9, 0, 0))), (0, (0, 30, (9, 0, 0))), (0, (1, 0, (0, (-2147483648), 2147483647))), (0, (1, 0, (0, 0, 1600)))], [((0, 3), 6, (1, 0, (0, 0, 0))), ((0, 3), 9, (1, 0, (1, 7, 0)))], 1600, [((-1), (1, 4), (-1))], [0, 1, 2])
theorem hc_18 {XX : xH → Prop} (hm : ttMan XX) : ttHas XX c_18 := ttMet_ok (ev := ([c_12, c_13, c_14], c_18.2.2.2.2.2.2, ttFF)) (n := 28) (cuts := [c_18_25]) (ttCe (hc_12 hm) (ttCe (hc_13 hm) (ttCe (hc_14 hm) (ttCo)))) hm.1 rfl (by decide +kernel) (by decide +kernel)
/-- Reader.takeNumber -/
def c_19 : ttCon := (80, 2, [(2, (0, 3, (9, 0, 0))), (0, (0, 0, (9, 0, 0))), (0, (0, 999, (9, 0, 0)))], [((0, 3), 9, (1, 0, (1, 7, 0)))], [(1, 0, (0, 0, 999))], [], true, [(3, 5, 7)])
def c_19_25 : Nat × ttCtA := (25, [(2, (0, 3, (9, 0, 0))), (0, (0, 0, (9, 0, 0))), (0, (0, 999, (9, 0, 0))), (0, (1, 0, (0, (-2147483648), 2147483647))), (0, (1, 0, (0, 0, 1600)))], [((0, 3), 6, (1, 0, (0, 0, 0))), ((0, 3), 9, (1, 0, (1, 7, 0)))], 1600, [((-1), (1, 4), (-1))], [0, 1, 2])
theorem hc_19 {XX : xH → Prop} (hm : ttMan XX) : ttHas XX c_19 := ttMet_ok (ev := ([c_12, c_13, c_14], c_19.2.2.2.2.2.2, ttFF)) (n := 28) (cuts := [c_19_25]) (ttCe (hc_12 hm) (ttCe (hc_13 hm) (ttCe (hc_14 hm) (ttCo)))) hm.1 rfl (by decide +kernel) (by decide +kernel)
/-- Reader.readPlace -/
def c_20 : ttCon := (87, 8, [(2, (0, 3, (9, 0, 0)))], [((0, 3), 9, (1, 0, (1, 7, 0)))], [(0, 0, (9, 0, 0))], [], true, [(3, 5, 7), (7, 4, 4), (7, 14, 14), (16, 0, 1)])
theorem hc_20 {XX : xH → Prop} (hm : ttMan XX) : ttHas XX c_20 := ttMet_ok (ev := ([m_1, c_13, c_16, c_17, c_18, c_19], c_20.2.2.2.2.2.2, ttFF)) (n := 75) (cuts := []) (ttCe (hm.2.2.1) (ttCe (hc_13 hm) (ttCe (hc_16 hm) (ttCe (hc_17 hm) (ttCe (hc_18 hm) (ttCe (hc_19 hm) (ttCo))))))) hm.1 rfl (by decide +kernel) (by decide +kernel)
/-- Reader.takeNumber -/
def c_21 : ttCon := (80, 2, [(2, (0, 3, (9, 0, 0))), (0, (0, 0, (9, 0, 0))), (0, (0, 40, (9, 0, 0)))], [((0, 3), 9, (1, 0, (1, 7, 0)))], [(1, 0, (0, 0, 40))], [], true, [(3, 5, 7)])
def c_21_25 : Nat × ttCtA := (25, [(2, (0, 3, (9, 0, 0))), (0, (0, 0, (9, 0, 0))), (0, (0, 40, (9, 0, 0))), (0, (1, 0, (0, (-2147483648), 2147483647))), (0, (1, 0, (0, 0, 1600)))], [((0, 3), 6, (1, 0, (0, 0, 0))), ((0, 3), 9, (1, 0, (1, 7, 0)))], 1600, [((-1), (1, 4), (-1))], [0, 1, 2])
theorem hc_21 {XX : xH → Prop} (hm : ttMan XX) : ttHas XX c_21 := ttMet_ok (ev := ([c_12, c_13, c_14], c_21.2.2.2.2.2.2, ttFF)) (n := 28) (cuts := [c_21_25]) (ttCe (hc_12 hm) (ttCe (hc_13 hm) (ttCe (hc_14 hm) (ttCo)))) hm.1 rfl (by decide +kernel) (by decide +kernel)
/-- Reader.takeNumber -/
def c_22 : ttCon := (80, 2, [(2, (0, 3, (9, 0, 0))), (0, (0, 1, (9, 0, 0))), (0, (0, 60, (9, 0, 0)))], [((0, 3), 9, (1, 0, (1, 7, 0)))], [(1, 0, (0, 0, 60))], [], true, [(3, 5, 7)])
def c_22_25 : Nat × ttCtA := (25, [(2, (0, 3, (9, 0, 0))), (0, (0, 1, (9, 0, 0))), (0, (0, 60, (9, 0, 0))), (0, (1, 0, (0, (-2147483648), 2147483647))), (0, (1, 0, (0, 0, 1600)))], [((0, 3), 6, (1, 0, (0, 0, 0))), ((0, 3), 9, (1, 0, (1, 7, 0)))], 1600, [((-1), (1, 4), (-1))], [0, 1, 2])
theorem hc_22 {XX : xH → Prop} (hm : ttMan XX) : ttHas XX c_22 := ttMet_ok (ev := ([c_12, c_13, c_14], c_22.2.2.2.2.2.2, ttFF)) (n := 28) (cuts := [c_22_25]) (ttCe (hc_12 hm) (ttCe (hc_13 hm) (ttCe (hc_14 hm) (ttCo)))) hm.1 rfl (by decide +kernel) (by decide +kernel)
/-- Reader.takeNumber -/
def c_23 : ttCon := (80, 2, [(2, (0, 3, (9, 0, 0))), (0, (0, 0, (9, 0, 0))), (0, (0, 60, (9, 0, 0)))], [((0, 3), 9, (1, 0, (1, 7, 0)))], [(1, 0, (0, 0, 60))], [], true, [(3, 5, 7)])
def c_23_25 : Nat × ttCtA := (25, [(2, (0, 3, (9, 0, 0))), (0, (0, 0, (9, 0, 0))), (0, (0, 60, (9, 0, 0))), (0, (1, 0, (0, (-2147483648), 2147483647))), (0, (1, 0, (0, 0, 1600)))], [((0, 3), 6, (1, 0, (0, 0, 0))), ((0, 3), 9, (1, 0, (1, 7, 0)))], 1600, [((-1), (1, 4), (-1))], [0, 1, 2])
theorem hc_23 {XX : xH → Prop} (hm : ttMan XX) : ttHas XX c_23 := ttMet_ok (ev := ([c_12, c_13, c_14], c_23.2.2.2.2.2.2, ttFF)) (n := 28) (cuts := [c_23_25]) (ttCe (hc_12 hm) (ttCe (hc_13 hm) (ttCe (hc_14 hm) (ttCo)))) hm.1 rfl (by decide +kernel) (by decide +kernel)
/-- Reader.takeSigned -/
def c_24 : ttCon := (81, 7, [(2, (0, 3, (9, 0, 0))), (0, (0, 60, (9, 0, 0)))], [((0, 3), 9, (1, 0, (1, 7, 0)))], [(1, 0, (0, (-60), 60))], [], true, [(3, 5, 7)])
theorem hc_24 {XX : xH → Prop} (hm : ttMan XX) : ttHas XX c_24 := ttMet_ok (ev := ([m_1, c_14, c_23], c_24.2.2.2.2.2.2, ttFF)) (n := 24) (cuts := []) (ttCe (hm.2.2.1) (ttCe (hc_14 hm) (ttCe (hc_23 hm) (ttCo)))) hm.1 rfl (by decide +kernel) (by decide +kernel)
/-- Reader.takeSigned -/
def c_25 : ttCon := (81, 7, [(2, (0, 3, (9, 0, 0))), (0, (0, 999, (9, 0, 0)))], [((0, 3), 9, (1, 0, (1, 7, 0)))], [(1, 0, (0, (-999), 999))], [], true, [(3, 5, 7)])
theorem hc_25 {XX : xH → Prop} (hm : ttMan XX) : ttHas XX c_25 := ttMet_ok (ev := ([m_1, c_14, c_19], c_25.2.2.2.2.2.2, ttFF)) (n := 24) (cuts := []) (ttCe (hm.2.2.1) (ttCe (hc_14 hm) (ttCe (hc_19 hm) (ttCo)))) hm.1 rfl (by decide +kernel) (by decide +kernel)
/-- Reader.takeNumber -/
def c_26 : ttCon := (80, 2, [(2, (0, 3, (9, 0, 0))), (0, (0, 0, (9, 0, 0))), (0, (1, 0, (0, (-1), 7)))], [((0, 3), 9, (1, 0, (1, 7, 0)))], [(1, 0, (0, 0, 7))], [], true, [(3, 5, 7)])
def c_26_25 : Nat × ttCtA := (25, [(2, (0, 3, (9, 0, 0))), (0, (0, 0, (9, 0, 0))), (0, (1, 0, (0, (-1), 7))), (0, (1, 0, (0, (-2147483648), 2147483647))), (0, (1, 0, (0, 0, 1600)))], [((0, 3), 6, (1, 0, (0, 0, 0))), ((0, 3), 9, (1, 0, (1, 7, 0)))], 1600, [((-1), (1, 4), (-1))], [0, 1, 2])
theorem hc_26 {XX : xH → Prop} (hm : ttMan XX) : ttHas XX c_26 := ttMet_ok (ev := ([c_12, c_13, c_14], c_26.2.2.2.2.2.2, ttFF)) (n := 28) (cuts := [c_26_25]) (ttCe (hc_12 hm) (ttCe (hc_13 hm) (ttCe (hc_14 hm) (ttCo)))) hm.1 rfl (by decide +kernel) (by decide +kernel)
/-- Reader.takePlace -/
def c_27 : ttCon := (82, 3, [(2, (0, 3, (9, 0, 0))), (0, (1, 0, (0, 0, 1)))], [((0, 3), 9, (1, 0, (1, 7, 0)))], [(1, 0, (0, 0, 7))], [], true, [(3, 5, 7)])
theorem hc_27 {XX : xH → Prop} (hm : ttMan XX) : ttHas XX c_27 := ttMet_ok (ev := ([c_13, c_26], c_27.2.2.2.2.2.2, ttFF)) (n := 34) (cuts := []) (ttCe (hc_13 hm) (ttCe (hc_26 hm) (ttCo))) hm.1 rfl (by decide +kernel) (by decide +kernel)
/-- Reader.takePlace -/
def c_28 : ttCon := (82, 3, [(2, (0, 3, (9, 0, 0))), (0, (1, 0, (0, 0, 199)))], [((0, 3), 9, (1, 0, (1, 7, 0)))], [(1, 0, (0, 0, 7))], [], true, [(3, 5, 7)])
theorem hc_28 {XX : xH → Prop} (hm : ttMan XX) : ttHas XX c_28 := ttMet_ok (ev := ([c_13, c_26], c_28.2.2.2.2.2.2, ttFF)) (n := 34) (cuts := []) (ttCe (hc_13 hm) (ttCe (hc_26 hm) (ttCo))) hm.1 rfl (by decide +kernel) (by decide +kernel)
/-- Reader.readLeg -/
def c_29 : ttCon := (88, 8, [(2, (0, 3, (9, 0, 0)))], [((0, 3), 9, (1, 0, (1, 7, 0)))], [(0, 0, (9, 0, 0))], [], true, [(3, 5, 7), (7, 5, 5), (24, 0, 5)])
theorem hc_29 {XX : xH → Prop} (hm : ttMan XX) : ttHas XX c_29 := ttMet_ok (ev := ([c_16, c_17, c_21, c_22, c_24, c_25, c_27, c_28], c_29.2.2.2.2.2.2, ttFF)) (n := 89) (cuts := []) (ttCe (hc_16 hm) (ttCe (hc_17 hm) (ttCe (hc_21 hm) (ttCe (hc_22 hm) (ttCe (hc_24 hm) (ttCe (hc_25 hm) (ttCe (hc_27 hm) (ttCe (hc_28 hm) (ttCo))))))))) hm.1 rfl (by decide +kernel) (by decide +kernel)
/-- Reader.readRest -/
def c_30 : ttCon := (86, 9, [(2, (0, 3, (9, 0, 0))), (0, (1, 0, (0, 0, 1)))], [((0, 3), 9, (1, 0, (1, 7, 0)))], [(0, 0, (9, 0, 0))], [], true, [(3, 5, 7), (7, 4, 5), (7, 14, 14), (16, 0, 1), (24, 0, 5)])
theorem hc_30 {XX : xH → Prop} (hm : ttMan XX) : ttHas XX c_30 := ttMet_ok (ev := ([c_20, c_29], c_30.2.2.2.2.2.2, ttFF)) (n := 14) (cuts := []) (ttCe (hc_20 hm) (ttCe (hc_29 hm) (ttCo))) hm.1 rfl (by decide +kernel) (by decide +kernel)
/-- Reader.takeNumber -/
def c_31 : ttCon := (80, 2, [(2, (0, 3, (9, 0, 0))), (0, (0, 0, (9, 0, 0))), (0, (0, 50, (9, 0, 0)))], [((0, 3), 9, (1, 0, (1, 7, 0)))], [(1, 0, (0, 0, 50))], [], true, [(3, 5, 7)])
def c_31_25 : Nat × ttCtA := (25, [(2, (0, 3, (9, 0, 0))), (0, (0, 0, (9, 0, 0))), (0, (0, 50, (9, 0, 0))), (0, (1, 0, (0, (-2147483648), 2147483647))), (0, (1, 0, (0, 0, 1600)))], [((0, 3), 6, (1, 0, (0, 0, 0))), ((0, 3), 9, (1, 0, (1, 7, 0)))], 1600, [((-1), (1, 4), (-1))], [0, 1, 2])
theorem hc_31 {XX : xH → Prop} (hm : ttMan XX) : ttHas XX c_31 := ttMet_ok (ev := ([c_12, c_13, c_14], c_31.2.2.2.2.2.2, ttFF)) (n := 28) (cuts := [c_31_25]) (ttCe (hc_12 hm) (ttCe (hc_13 hm) (ttCe (hc_14 hm) (ttCo)))) hm.1 rfl (by decide +kernel) (by decide +kernel)
/-- Reader.takeNumber -/
def c_32 : ttCon := (80, 2, [(2, (0, 3, (9, 0, 0))), (0, (0, 0, (9, 0, 0))), (0, (0, 99, (9, 0, 0)))], [((0, 3), 9, (1, 0, (1, 7, 0)))], [(1, 0, (0, 0, 99))], [], true, [(3, 5, 7)])
def c_32_25 : Nat × ttCtA := (25, [(2, (0, 3, (9, 0, 0))), (0, (0, 0, (9, 0, 0))), (0, (0, 99, (9, 0, 0))), (0, (1, 0, (0, (-2147483648), 2147483647))), (0, (1, 0, (0, 0, 1600)))], [((0, 3), 6, (1, 0, (0, 0, 0))), ((0, 3), 9, (1, 0, (1, 7, 0)))], 1600, [((-1), (1, 4), (-1))], [0, 1, 2])
theorem hc_32 {XX : xH → Prop} (hm : ttMan XX) : ttHas XX c_32 := ttMet_ok (ev := ([c_12, c_13, c_14], c_32.2.2.2.2.2.2, ttFF)) (n := 28) (cuts := [c_32_25]) (ttCe (hc_12 hm) (ttCe (hc_13 hm) (ttCe (hc_14 hm) (ttCo)))) hm.1 rfl (by decide +kernel) (by decide +kernel)
/-- Reader.takeNumber -/
def c_33 : ttCon := (80, 2, [(2, (0, 3, (9, 0, 0))), (0, (0, 0, (9, 0, 0))), (0, (0, 9999, (9, 0, 0)))], [((0, 3), 9, (1, 0, (1, 7, 0)))], [(1, 0, (0, 0, 9999))], [], true, [(3, 5, 7)])
def c_33_25 : Nat × ttCtA := (25, [(2, (0, 3, (9, 0, 0))), (0, (0, 0, (9, 0, 0))), (0, (0, 9999, (9, 0, 0))), (0, (1, 0, (0, (-2147483648), 2147483647))), (0, (1, 0, (0, 0, 1600)))], [((0, 3), 6, (1, 0, (0, 0, 0))), ((0, 3), 9, (1, 0, (1, 7, 0)))], 1600, [((-1), (1, 4), (-1))], [0, 1, 2])
theorem hc_33 {XX : xH → Prop} (hm : ttMan XX) : ttHas XX c_33 := ttMet_ok (ev := ([c_12, c_13, c_14], c_33.2.2.2.2.2.2, ttFF)) (n := 28) (cuts := [c_33_25]) (ttCe (hc_12 hm) (ttCe (hc_13 hm) (ttCe (hc_14 hm) (ttCo)))) hm.1 rfl (by decide +kernel) (by decide +kernel)
/-- Reader.takeNumber -/
def c_34 : ttCon := (80, 2, [(2, (0, 3, (9, 0, 0))), (0, (0, 1, (9, 0, 0))), (0, (0, 47, (9, 0, 0)))], [((0, 3), 9, (1, 0, (1, 7, 0)))], [(1, 0, (0, 0, 47))], [], true, [(3, 5, 7)])
def c_34_25 : Nat × ttCtA := (25, [(2, (0, 3, (9, 0, 0))), (0, (0, 1, (9, 0, 0))), (0, (0, 47, (9, 0, 0))), (0, (1, 0, (0, (-2147483648), 2147483647))), (0, (1, 0, (0, 0, 1600)))], [((0, 3), 6, (1, 0, (0, 0, 0))), ((0, 3), 9, (1, 0, (1, 7, 0)))], 1600, [((-1), (1, 4), (-1))], [0, 1, 2])
theorem hc_34 {XX : xH → Prop} (hm : ttMan XX) : ttHas XX c_34 := ttMet_ok (ev := ([c_12, c_13, c_14], c_34.2.2.2.2.2.2, ttFF)) (n := 28) (cuts := [c_34_25]) (ttCe (hc_12 hm) (ttCe (hc_13 hm) (ttCe (hc_14 hm) (ttCo)))) hm.1 rfl (by decide +kernel) (by decide +kernel)
/-- Reader.takeNumber -/
def c_35 : ttCon := (80, 2, [(2, (0, 3, (9, 0, 0))), (0, (0, 1, (9, 0, 0))), (0, (0, 999, (9, 0, 0)))], [((0, 3), 9, (1, 0, (1, 7, 0)))], [(1, 0, (0, 0, 999))], [], true, [(3, 5, 7)])
def c_35_25 : Nat × ttCtA := (25, [(2, (0, 3, (9, 0, 0))), (0, (0, 1, (9, 0, 0))), (0, (0, 999, (9, 0, 0))), (0, (1, 0, (0, (-2147483648), 2147483647))), (0, (1, 0, (0, 0, 1600)))], [((0, 3), 6, (1, 0, (0, 0, 0))), ((0, 3), 9, (1, 0, (1, 7, 0)))], 1600, [((-1), (1, 4), (-1))], [0, 1, 2])
theorem hc_35 {XX : xH → Prop} (hm : ttMan XX) : ttHas XX c_35 := ttMet_ok (ev := ([c_12, c_13, c_14], c_35.2.2.2.2.2.2, ttFF)) (n := 28) (cuts := [c_35_25]) (ttCe (hc_12 hm) (ttCe (hc_13 hm) (ttCe (hc_14 hm) (ttCo)))) hm.1 rfl (by decide +kernel) (by decide +kernel)
/-- Reader.takeNumber -/
def c_36 : ttCon := (80, 2, [(2, (0, 3, (9, 0, 0))), (0, (0, 20, (9, 0, 0))), (0, (0, 150, (9, 0, 0)))], [((0, 3), 9, (1, 0, (1, 7, 0)))], [(1, 0, (0, 0, 150))], [], true, [(3, 5, 7)])
def c_36_25 : Nat × ttCtA := (25, [(2, (0, 3, (9, 0, 0))), (0, (0, 20, (9, 0, 0))), (0, (0, 150, (9, 0, 0))), (0, (1, 0, (0, (-2147483648), 2147483647))), (0, (1, 0, (0, 0, 1600)))], [((0, 3), 6, (1, 0, (0, 0, 0))), ((0, 3), 9, (1, 0, (1, 7, 0)))], 1600, [((-1), (1, 4), (-1))], [0, 1, 2])
theorem hc_36 {XX : xH → Prop} (hm : ttMan XX) : ttHas XX c_36 := ttMet_ok (ev := ([c_12, c_13, c_14], c_36.2.2.2.2.2.2, ttFF)) (n := 28) (cuts := [c_36_25]) (ttCe (hc_12 hm) (ttCe (hc_13 hm) (ttCe (hc_14 hm) (ttCo)))) hm.1 rfl (by decide +kernel) (by decide +kernel)
/-- Reader.takeNumber -/
def c_37 : ttCon := (80, 2, [(2, (0, 3, (9, 0, 0))), (0, (0, 31, (9, 0, 0))), (0, (0, 60, (9, 0, 0)))], [((0, 3), 9, (1, 0, (1, 7, 0)))], [(1, 0, (0, 0, 60))], [], true, [(3, 5, 7)])
def c_37_25 : Nat × ttCtA := (25, [(2, (0, 3, (9, 0, 0))), (0, (0, 31, (9, 0, 0))), (0, (0, 60, (9, 0, 0))), (0, (1, 0, (0, (-2147483648), 2147483647))), (0, (1, 0, (0, 0, 1600)))], [((0, 3), 6, (1, 0, (0, 0, 0))), ((0, 3), 9, (1, 0, (1, 7, 0)))], 1600, [((-1), (1, 4), (-1))], [0, 1, 2])
theorem hc_37 {XX : xH → Prop} (hm : ttMan XX) : ttHas XX c_37 := ttMet_ok (ev := ([c_12, c_13, c_14], c_37.2.2.2.2.2.2, ttFF)) (n := 28) (cuts := [c_37_25]) (ttCe (hc_12 hm) (ttCe (hc_13 hm) (ttCe (hc_14 hm) (ttCo)))) hm.1 rfl (by decide +kernel) (by decide +kernel)
/-- Reader.takePlace -/
def c_38 : ttCon := (82, 3, [(2, (0, 3, (9, 0, 0))), (0, (1, 0, (0, (-2147483648), 2147483647)))], [((0, 3), 9, (1, 0, (1, 7, 0)))], [(1, 0, (0, 0, 7))], [], true, [(3, 5, 7)])
theorem hc_38 {XX : xH → Prop} (hm : ttMan XX) : ttHas XX c_38 := ttMet_ok (ev := ([c_13, c_26], c_38.2.2.2.2.2.2, ttFF)) (n := 34) (cuts := []) (ttCe (hc_13 hm) (ttCe (hc_26 hm) (ttCo))) hm.1 rfl (by decide +kernel) (by decide +kernel)
/-- Sky.liftBits -/
def c_39 : ttCon := (122, 1, [(2, (1, 0, (1, 7, 0)))], [], [(1, 0, (0, 0, 255))], [], true, [])
def c_39_4 : Nat × ttCtA := (4, [(2, (1, 0, (1, 7, 0))), (0, (1, 0, (0, 0, 255))), (0, (1, 0, (0, 0, 8)))], [], 8, [((-1), (1, 2), (-1))], [0])
theorem hc_39 {XX : xH → Prop} (hm : ttMan XX) : ttHas XX c_39 := ttMet_ok (ev := ([], c_39.2.2.2.2.2.2, ttFF)) (n := 24) (cuts := [c_39_4]) (ttCo) hm.1 rfl (by decide +kernel) (by decide +kernel)
/-- Reader.takeNumber -/
def c_40 : ttCon := (80, 2, [(2, (0, 3, (9, 0, 0))), (0, (0, 0, (9, 0, 0))), (0, (0, 100, (9, 0, 0)))], [((0, 3), 9, (1, 0, (1, 7, 0)))], [(1, 0, (0, 0, 100))], [], true, [(3, 5, 7)])
def c_40_25 : Nat × ttCtA := (25, [(2, (0, 3, (9, 0, 0))), (0, (0, 0, (9, 0, 0))), (0, (0, 100, (9, 0, 0))), (0, (1, 0, (0, (-2147483648), 2147483647))), (0, (1, 0, (0, 0, 1600)))], [((0, 3), 6, (1, 0, (0, 0, 0))), ((0, 3), 9, (1, 0, (1, 7, 0)))], 1600, [((-1), (1, 4), (-1))], [0, 1, 2])
theorem hc_40 {XX : xH → Prop} (hm : ttMan XX) : ttHas XX c_40 := ttMet_ok (ev := ([c_12, c_13, c_14], c_40.2.2.2.2.2.2, ttFF)) (n := 28) (cuts := [c_40_25]) (ttCe (hc_12 hm) (ttCe (hc_13 hm) (ttCe (hc_14 hm) (ttCo)))) hm.1 rfl (by decide +kernel) (by decide +kernel)
/-- Reader.takeNumber -/
def c_41 : ttCon := (80, 2, [(2, (0, 3, (9, 0, 0))), (0, (0, 0, (9, 0, 0))), (0, (0, 2000, (9, 0, 0)))], [((0, 3), 9, (1, 0, (1, 7, 0)))], [(1, 0, (0, 0, 2000))], [], true, [(3, 5, 7)])
def c_41_25 : Nat × ttCtA := (25, [(2, (0, 3, (9, 0, 0))), (0, (0, 0, (9, 0, 0))), (0, (0, 2000, (9, 0, 0))), (0, (1, 0, (0, (-2147483648), 2147483647))), (0, (1, 0, (0, 0, 1600)))], [((0, 3), 6, (1, 0, (0, 0, 0))), ((0, 3), 9, (1, 0, (1, 7, 0)))], 1600, [((-1), (1, 4), (-1))], [0, 1, 2])
theorem hc_41 {XX : xH → Prop} (hm : ttMan XX) : ttHas XX c_41 := ttMet_ok (ev := ([c_12, c_13, c_14], c_41.2.2.2.2.2.2, ttFF)) (n := 28) (cuts := [c_41_25]) (ttCe (hc_12 hm) (ttCe (hc_13 hm) (ttCe (hc_14 hm) (ttCo)))) hm.1 rfl (by decide +kernel) (by decide +kernel)
/-- Reader.takePlace -/
def c_42 : ttCon := (82, 3, [(2, (0, 3, (9, 0, 0))), (0, (1, 0, (0, 0, 255)))], [((0, 3), 9, (1, 0, (1, 7, 0)))], [(1, 0, (0, 0, 7))], [], true, [(3, 5, 7)])
theorem hc_42 {XX : xH → Prop} (hm : ttMan XX) : ttHas XX c_42 := ttMet_ok (ev := ([c_13, c_26], c_42.2.2.2.2.2.2, ttFF)) (n := 34) (cuts := []) (ttCe (hc_13 hm) (ttCe (hc_26 hm) (ttCo))) hm.1 rfl (by decide +kernel) (by decide +kernel)
/-- Reader.readLift -/
def c_43 : ttCon := (89, 8, [(2, (0, 3, (9, 0, 0)))], [((0, 3), 9, (1, 0, (1, 7, 0)))], [(0, 0, (9, 0, 0))], [], true, [(3, 5, 7), (16, 2, 6)])
theorem hc_43 {XX : xH → Prop} (hm : ttMan XX) : ttHas XX c_43 := ttMet_ok (ev := ([c_39, c_16, c_17, c_40, c_41, c_42], c_43.2.2.2.2.2.2, ttFF)) (n := 84) (cuts := []) (ttCe (hc_39 hm) (ttCe (hc_16 hm) (ttCe (hc_17 hm) (ttCe (hc_40 hm) (ttCe (hc_41 hm) (ttCe (hc_42 hm) (ttCo))))))) hm.1 rfl (by decide +kernel) (by decide +kernel)
/-- Reader.readRest -/
def c_44 : ttCon := (86, 9, [(2, (0, 3, (9, 0, 0))), (0, (1, 0, (0, 0, 10)))], [((0, 3), 9, (1, 0, (1, 7, 0)))], [(0, 0, (9, 0, 0))], [], true, [(3, 5, 8), (7, 4, 5), (7, 7, 18), (10, 0, 0), (11, 0, 5), (12, 0, 5), (16, 0, 6), (24, 0, 5)])
theorem hc_44 {XX : xH → Prop} (hm : ttMan XX) : ttHas XX c_44 := ttMet_ok (ev := ([c_16, c_17, c_31, c_23, c_32, c_19, c_33, c_34, c_35, c_36, c_37, c_38, c_27, c_20, c_29, c_43], c_44.2.2.2.2.2.2, ttFF)) (n := 60) (cuts := []) (ttCe (hc_16 hm) (ttCe (hc_17 hm) (ttCe (hc_31 hm) (ttCe (hc_23 hm) (ttCe (hc_32 hm) (ttCe (hc_19 hm) (ttCe (hc_33 hm) (ttCe (hc_34 hm) (ttCe (hc_35 hm) (ttCe (hc_36 hm) (ttCe (hc_37 hm) (ttCe (hc_38 hm) (ttCe (hc_27 hm) (ttCe (hc_20 hm) (ttCe (hc_29 hm) (ttCe (hc_43 hm) (ttCo))))))))))))))))) hm.1 rfl (by decide +kernel) (by decide +kernel)
/-- Reader.readRest -/
def c_45 : ttCon := (86, 9, [(2, (0, 3, (9, 0, 0))), (0, (1, 0, (0, 0, 3)))], [((0, 3), 9, (1, 0, (1, 7, 0)))], [(0, 0, (9, 0, 0))], [], true, [(3, 5, 7), (7, 4, 5), (7, 14, 14), (10, 0, 0), (11, 0, 5), (12, 0, 5), (16, 0, 6), (24, 0, 5)])
theorem hc_45 {XX : xH → Prop} (hm : ttMan XX) : ttHas XX c_45 := ttMet_ok (ev := ([c_17, c_35, c_36, c_20, c_29, c_43], c_45.2.2.2.2.2.2, ttFF)) (n := 60) (cuts := []) (ttCe (hc_17 hm) (ttCe (hc_35 hm) (ttCe (hc_36 hm) (ttCe (hc_20 hm) (ttCe (hc_29 hm) (ttCe (hc_43 hm) (ttCo))))))) hm.1 rfl (by decide +kernel) (by decide +kernel)
/-- Reader.readRest -/
def c_46 : ttCon := (86, 9, [(2, (0, 3, (9, 0, 0))), (0, (1, 0, (0, 0, 5)))], [((0, 3), 9, (1, 0, (1, 7, 0)))], [(0, 0, (9, 0, 0))], [], true, [(3, 5, 8), (7, 4, 5), (7, 7, 7), (7, 14, 14), (7, 18, 18), (10, 0, 0), (11, 0, 5), (12, 0, 5), (16, 0, 6), (24, 0, 5)])
theorem hc_46 {XX : xH → Prop} (hm : ttMan XX) : ttHas XX c_46 := ttMet_ok (ev := ([c_17, c_19, c_35, c_36, c_38, c_20, c_29, c_43], c_46.2.2.2.2.2.2, ttFF)) (n := 60) (cuts := []) (ttCe (hc_17 hm) (ttCe (hc_19 hm) (ttCe (hc_35 hm) (ttCe (hc_36 hm) (ttCe (hc_38 hm) (ttCe (hc_20 hm) (ttCe (hc_29 hm) (ttCe (hc_43 hm) (ttCo))))))))) hm.1 rfl (by decide +kernel) (by decide +kernel)
/-- Reader.readLine -/
def c_47 : ttCon := (83, 10, [(2, (0, 3, (9, 0, 0)))], [((0, 3), 9, (1, 0, (1, 7, 0)))], [(0, 0, (9, 0, 0))], [], true, [(3, 5, 8), (7, 4, 18), (10, 0, 0), (11, 0, 5), (12, 0, 5), (16, 0, 6), (24, 0, 5)])
theorem hc_47 {XX : xH → Prop} (hm : ttMan XX) : ttHas XX c_47 := ttMet_ok (ev := ([c_12, c_13, c_14, c_15, c_30, c_44, c_45, c_46], c_47.2.2.2.2.2.2, ttFF)) (n := 107) (cuts := []) (ttCe (hc_12 hm) (ttCe (hc_13 hm) (ttCe (hc_14 hm) (ttCe (hc_15 hm) (ttCe (hc_30 hm) (ttCe (hc_44 hm) (ttCe (hc_45 hm) (ttCe (hc_46 hm) (ttCo))))))))) hm.1 rfl (by decide +kernel) (by decide +kernel)
/-- Reader.readAll -/
def c_48 : ttCon := (71, 11, [(2, (0, 3, (9, 0, 0))), (0, (1, 0, (0, 0, 1600))), (2, (1, 0, (1, 7, 0)))], [], [(1, 0, (0, (-2147483648), 2147483647))], [], true, [(3, 4, 9), (4, 0, 1600), (5, 0, 1600), (6, 0, 1600), (7, 4, 18), (10, 0, 0), (11, 0, 5), (12, 0, 5), (16, 0, 6), (24, 0, 5)])
def c_48_22 : Nat × ttCtA := (22, [(2, (0, 3, (9, 0, 0))), (0, (1, 0, (0, 0, 1600))), (2, (1, 0, (1, 7, 0))), (0, (1, 0, (0, 0, 1601)))], [((0, 3), 9, (1, 0, (10, 2, 0)))], 1601, [((-1), (1, 3), (-1))], [0, 1, 2])
theorem hc_48 {XX : xH → Prop} (hm : ttMan XX) : ttHas XX c_48 := ttMet_ok (ev := ([m_0, c_47], c_48.2.2.2.2.2.2, ttFF)) (n := 63) (cuts := [c_48_22]) (ttCe (hm.2.1) (ttCe (hc_47 hm) (ttCo))) hm.1 rfl (by decide +kernel) (by decide +kernel)
/-- LastCloud.sky -/
def c_49 : ttCon := (136, 12, [(2, (0, 1, (9, 0, 0)))], [], [(1, 0, (0, (-2147483648), 2147483647))], [], true, [(1, 1, 1), (1, 3, 6), (3, 4, 9), (4, 0, 1600), (5, 0, 1600), (6, 0, 1600), (7, 4, 18), (10, 0, 0), (11, 0, 5), (12, 0, 5), (13, 0, 0), (16, 0, 6), (24, 0, 5), (63, 6, 6), (64, 0, 16), (65, 0, 239), (66, 0, 239), (67, 0, 239), (68, 0, 239), (69, 0, 239), (70, 0, 15), (210, 9, 9)])
theorem hc_49 {XX : xH → Prop} (hm : ttMan XX) : ttHas XX c_49 := ttMet_ok (ev := ([c_3, c_4, c_11, c_48], c_49.2.2.2.2.2.2, ttFF)) (n := 49) (cuts := []) (ttCe (hc_3 hm) (ttCe (hc_4 hm) (ttCe (hc_11 hm) (ttCe (hc_48 hm) (ttCo))))) hm.1 rfl (by decide +kernel) (by decide +kernel)
/-- LastCloud.fault -/
def c_50 : ttCon := (137, 1, [(2, (0, 1, (9, 0, 0))), (0, (1, 0, (0, (-2147483648), 2147483647)))], [], [(1, 0, (0, (-2147483648), 2147483647))], [], true, [])
theorem hc_50 {XX : xH → Prop} (hm : ttMan XX) : ttHas XX c_50 := ttMet_ok (ev := ([], c_50.2.2.2.2.2.2, ttFF)) (n := 14) (cuts := []) (ttCo) hm.1 rfl (by decide +kernel) (by decide +kernel)
/-- LastCloud.periods -/
def c_51 : ttCon := (139, 3, [(2, (0, 1, (9, 0, 0))), (0, (1, 0, (0, (-2147483648), 2147483647))), (0, (1, 0, (0, 0, 1))), (0, (1, 0, (0, (-2147483648), 2147483647))), (0, (1, 0, (0, 0, 1)))], [], [(1, 0, (0, (-2147483648), 2147483647))], [], true, [])
theorem hc_51 {XX : xH → Prop} (hm : ttMan XX) : ttHas XX c_51 := ttMet_ok (ev := ([c_5], c_51.2.2.2.2.2.2, ttFF)) (n := 42) (cuts := []) (ttCe (hc_5 hm) (ttCo)) hm.1 rfl (by decide +kernel) (by decide +kernel)
/-- LastCloud.loss -/
def c_52 : ttCon := (140, 4, [(2, (0, 1, (9, 0, 0))), (0, (1, 0, (0, (-2147483648), 2147483647))), (0, (1, 0, (0, 0, 1))), (0, (1, 0, (0, (-2147483648), 2147483647))), (0, (1, 0, (0, 0, 1)))], [], [(1, 0, (0, (-2147483648), 2147483647))], [], true, [])
theorem hc_52 {XX : xH → Prop} (hm : ttMan XX) : ttHas XX c_52 := ttMet_ok (ev := ([c_6], c_52.2.2.2.2.2.2, ttFF)) (n := 42) (cuts := []) (ttCe (hc_6 hm) (ttCo)) hm.1 rfl (by decide +kernel) (by decide +kernel)
/-- Sky.wins -/
def c_53 : ttCon := (126, 3, [(2, (1, 0, (1, 7, 0))), (0, (1, 0, (0, 0, 7))), (0, (1, 0, (0, 0, 1)))], [], [(1, 0, (0, 0, 2147483647))], [], true, [])
theorem hc_53 {XX : xH → Prop} (hm : ttMan XX) : ttHas XX c_53 := ttMet_ok (ev := ([], c_53.2.2.2.2.2.2, ttFF)) (n := 44) (cuts := []) (ttCo) hm.1 rfl (by decide +kernel) (by decide +kernel)
/-- LastCloud.climb -/
def c_54 : ttCon := (141, 4, [(2, (0, 1, (9, 0, 0))), (0, (1, 0, (0, (-2147483648), 2147483647))), (0, (1, 0, (0, 0, 1)))], [], [(1, 0, (0, (-2), 2147483647))], [], true, [])
theorem hc_54 {XX : xH → Prop} (hm : ttMan XX) : ttHas XX c_54 := ttMet_ok (ev := ([c_53], c_54.2.2.2.2.2.2, ttFF)) (n := 26) (cuts := []) (ttCe (hc_53 hm) (ttCo)) hm.1 rfl (by decide +kernel) (by decide +kernel)
/-- Place.bySign -/
def c_55 : ttCon := (44, 1, [(2, (1, 0, (1, 16, 0))), (0, (1, 0, (0, (-2147483648), 2147483647))), (0, (1, 0, (0, 0, 1))), (0, (1, 0, (0, 0, 100)))], [], [(1, 0, (0, (-2147483648), 2147483647))], [], true, [])
theorem hc_55 {XX : xH → Prop} (hm : ttMan XX) : ttHas XX c_55 := ttMet_ok (ev := ([], c_55.2.2.2.2.2.2, ttFF)) (n := 37) (cuts := []) (ttCo) hm.1 rfl (by decide +kernel) (by decide +kernel)
/-- Sky.chanceNow -/
def c_56 : ttCon := (129, 3, [(2, (1, 0, (1, 7, 0))), (0, (1, 0, (0, 0, 7)))], [], [(1, 0, (0, (-2147483648), 2147483647))], [], true, [])
def c_56_8 : Nat × ttCtA := (8, [(2, (1, 0, (1, 7, 0))), (0, (1, 0, (0, 0, 7))), (0, (1, 0, (0, (-2147483648), 2147483647))), (0, (1, 0, (0, 0, 20)))], [], 20, [((-1), (1, 3), (-1))], [0, 1])
theorem hc_56 {XX : xH → Prop} (hm : ttMan XX) : ttHas XX c_56 := ttMet_ok (ev := ([c_55], c_56.2.2.2.2.2.2, ttFF)) (n := 53) (cuts := [c_56_8]) (ttCe (hc_55 hm) (ttCo)) hm.1 rfl (by decide +kernel) (by decide +kernel)
/-- LastCloud.chance -/
def c_57 : ttCon := (142, 4, [(2, (0, 1, (9, 0, 0))), (0, (1, 0, (0, (-2147483648), 2147483647)))], [], [(1, 0, (0, (-2147483648), 2147483647))], [], true, [])
theorem hc_57 {XX : xH → Prop} (hm : ttMan XX) : ttHas XX c_57 := ttMet_ok (ev := ([c_56], c_57.2.2.2.2.2.2, ttFF)) (n := 25) (cuts := []) (ttCe (hc_56 hm) (ttCo)) hm.1 rfl (by decide +kernel) (by decide +kernel)
/-- LastCloud.sight -/
def c_58 : ttCon := (143, 2, [(2, (0, 1, (9, 0, 0))), (0, (1, 0, (0, (-2147483648), 2147483647))), (0, (1, 0, (0, (-2147483648), 2147483647)))], [], [(1, 0, (0, (-3), 20))], [], true, [(13, 0, 0), (14, 0, 19), (15, 0, 19), (210, 9, 9)])
theorem hc_58 {XX : xH → Prop} (hm : ttMan XX) : ttHas XX c_58 := ttMet_ok (ev := ([c_4], c_58.2.2.2.2.2.2, ttFF)) (n := 66) (cuts := []) (ttCe (hc_4 hm) (ttCo)) hm.1 rfl (by decide +kernel) (by decide +kernel)
/-- LastCloud.unsee -/
def c_59 : ttCon := (144, 2, [(2, (0, 1, (9, 0, 0))), (0, (1, 0, (0, (-2147483648), 2147483647)))], [], [(1, 0, (0, (-2), 20))], [], true, [(13, 0, 0), (210, 9, 9)])
theorem hc_59 {XX : xH → Prop} (hm : ttMan XX) : ttHas XX c_59 := ttMet_ok (ev := ([c_4], c_59.2.2.2.2.2.2, ttFF)) (n := 28) (cuts := []) (ttCe (hc_4 hm) (ttCo)) hm.1 rfl (by decide +kernel) (by decide +kernel)
/-- Place.bySign -/
def c_60 : ttCon := (44, 1, [(2, (1, 0, (1, 16, 0))), (0, (1, 0, (0, (-2147483648), 2147483647))), (0, (1, 0, (0, 0, 1))), (0, (1, 0, (0, 0, 46847)))], [], [(1, 0, (0, (-2147483648), 2147483647))], [], true, [])
theorem hc_60 {XX : xH → Prop} (hm : ttMan XX) : ttHas XX c_60 := ttMet_ok (ev := ([], c_60.2.2.2.2.2.2, ttFF)) (n := 37) (cuts := []) (ttCo) hm.1 rfl (by decide +kernel) (by decide +kernel)
/-- LastCloud.sign -/
def c_61 : ttCon := (145, 2, [(2, (0, 1, (9, 0, 0))), (0, (1, 0, (0, (-2147483648), 2147483647))), (0, (1, 0, (0, 0, 1)))], [], [(1, 0, (0, (-2147483648), 2147483647))], [], true, [])
theorem hc_61 {XX : xH → Prop} (hm : ttMan XX) : ttHas XX c_61 := ttMet_ok (ev := ([c_60], c_61.2.2.2.2.2.2, ttFF)) (n := 32) (cuts := []) (ttCe (hc_60 hm) (ttCo)) hm.1 rfl (by decide +kernel) (by decide +kernel)
/-- Hops.raiseFrom -/
def c_62 : ttCon := (26, 3, [(2, (0, 63, (9, 0, 0))), (2, (1, 0, (1, 7, 0))), (0, (1, 0, (0, 0, 7))), (0, (1, 0, (0, 0, 15)))], [], [(1, 0, (0, 0, 1))], [], true, [(71, 0, 7)])
def c_62_7 : Nat × ttCtA := (7, [(2, (0, 63, (9, 0, 0))), (2, (1, 0, (1, 7, 0))), (0, (1, 0, (0, 0, 7))), (0, (1, 0, (0, 0, 15))), (0, (1, 0, (0, 0, 1))), (0, (1, 0, (0, 0, 240))), (9, (1, 0, (9, 0, 0)))], [], 240, [((-1), (1, 5), (-1))], [0, 1, 2, 3])
theorem hc_62 {XX : xH → Prop} (hm : ttMan XX) : ttHas XX c_62 := ttMet_ok (ev := ([], c_62.2.2.2.2.2.2, ttFF)) (n := 70) (cuts := [c_62_7]) (ttCo) hm.1 rfl (by decide +kernel) (by decide +kernel)
/-- Hops.raiseFrom -/
def c_63 : ttCon := (26, 3, [(2, (0, 63, (9, 0, 0))), (2, (1, 0, (1, 7, 0))), (0, (1, 0, (0, 0, 7))), (0, (1, 0, (0, 0, 7)))], [], [(1, 0, (0, 0, 1))], [], true, [(71, 0, 7)])
def c_63_7 : Nat × ttCtA := (7, [(2, (0, 63, (9, 0, 0))), (2, (1, 0, (1, 7, 0))), (0, (1, 0, (0, 0, 7))), (0, (1, 0, (0, 0, 7))), (0, (1, 0, (0, 0, 1))), (0, (1, 0, (0, 0, 240))), (9, (1, 0, (9, 0, 0)))], [], 240, [((-1), (1, 5), (-1))], [0, 1, 2, 3])
theorem hc_63 {XX : xH → Prop} (hm : ttMan XX) : ttHas XX c_63 := ttMet_ok (ev := ([], c_63.2.2.2.2.2.2, ttFF)) (n := 70) (cuts := [c_63_7]) (ttCo) hm.1 rfl (by decide +kernel) (by decide +kernel)
/-- java/util/Arrays.fill -/
def c_64 : ttCon := (334, 1, [(2, (0, 71, (9, 0, 0))), (0, (1, 0, (0, (-1), 1)))], [], [(0, 0, (9, 0, 0))], [], true, [(71, 0, 7)])
def c_64_5 : Nat × ttCtA := (5, [(2, (0, 71, (9, 0, 0))), (0, (1, 0, (0, (-1), 1))), (0, (1, 0, (0, 0, 8))), (0, (0, 8, (9, 0, 0)))], [], 8, [((-1), (1, 2), (-1))], [0, 1])
theorem hc_64 {XX : xH → Prop} (hm : ttMan XX) : ttHas XX c_64 := ttMet_ok (ev := ([], c_64.2.2.2.2.2.2, ttFF)) (n := 15) (cuts := [c_64_5]) (ttCo) hm.1 rfl (by decide +kernel) (by decide +kernel)
/-- Hops.glide -/
def c_65 : ttCon := (25, 4, [(2, (0, 63, (9, 0, 0))), (2, (1, 0, (1, 7, 0))), (0, (1, 0, (0, 0, 7))), (0, (1, 0, (0, 0, 60))), (0, (1, 0, (0, 0, 1)))], [], [(0, 0, (9, 0, 0))], [], true, [(71, 0, 7)])
def c_65_13 : Nat × ttCtA := (13, [(2, (0, 63, (9, 0, 0))), (2, (1, 0, (1, 7, 0))), (0, (1, 0, (0, 0, 7))), (0, (1, 0, (0, 0, 60))), (0, (1, 0, (0, 0, 1))), (0, (1, 0, (0, 0, 1))), (0, (1, 0, (0, 0, 588))), (9, (1, 0, (9, 0, 0)))], [], 5889, [((-10), (1, 6), (-1))], [0, 1, 2, 3, 4])
def c_65_22 : Nat × ttCtA := (22, [(2, (0, 63, (9, 0, 0))), (2, (1, 0, (1, 7, 0))), (0, (1, 0, (0, 0, 7))), (0, (1, 0, (0, 0, 60))), (0, (1, 0, (0, 0, 1))), (0, (1, 0, (0, 0, 1))), (0, (1, 0, (0, 0, 504))), (0, (1, 0, (0, 0, 8)))], [], 5888, [((-10), (1, 6), (-1)), ((-1), (1, 7), (-1))], [0, 1, 2, 3, 4])
theorem hc_65 {XX : xH → Prop} (hm : ttMan XX) : ttHas XX c_65 := ttMet_ok (ev := ([c_62, c_63, c_64], c_65.2.2.2.2.2.2, ttFF)) (n := 35) (cuts := [c_65_13, c_65_22]) (ttCe (hc_62 hm) (ttCe (hc_63 hm) (ttCe (hc_64 hm) (ttCo)))) hm.1 rfl (by decide +kernel) (by decide +kernel)
/-- LastCloud.reach -/
def c_66 : ttCon := (146, 5, [(2, (0, 1, (9, 0, 0))), (0, (1, 0, (0, (-2147483648), 2147483647))), (0, (1, 0, (0, (-2147483648), 2147483647))), (0, (1, 0, (0, (-2147483648), 2147483647))), (0, (1, 0, (0, 0, 1)))], [], [(1, 0, (0, (-2147483648), 2147483647))], [], true, [(71, 0, 7)])
theorem hc_66 {XX : xH → Prop} (hm : ttMan XX) : ttHas XX c_66 := ttMet_ok (ev := ([c_65], c_66.2.2.2.2.2.2, ttFF)) (n := 76) (cuts := []) (ttCe (hc_65 hm) (ttCo)) hm.1 rfl (by decide +kernel) (by decide +kernel)
/-- LastCloud.fields -/
def c_67 : ttCon := (147, 5, [(2, (0, 1, (9, 0, 0))), (0, (1, 0, (0, (-2147483648), 2147483647))), (0, (1, 0, (0, (-2147483648), 2147483647))), (0, (1, 0, (0, 0, 1)))], [], [(1, 0, (0, (-2), 255))], [], true, [(71, 0, 7)])
def c_67_20 : Nat × ttCtA := (20, [(2, (0, 1, (9, 0, 0))), (0, (1, 0, (0, 0, 7))), (0, (1, 0, (0, 0, 60))), (0, (1, 0, (0, 0, 1))), (0, (1, 0, (0, 0, 255))), (0, (1, 0, (0, 0, 8)))], [((0, 1), 5, (1, 0, (1, 7, 0))), ((3, 5), 4, (1, 0, (0, 1, 8)))], 8, [((-1), (1, 5), (-1))], [0, 1, 2, 3])
theorem hc_67 {XX : xH → Prop} (hm : ttMan XX) : ttHas XX c_67 := ttMet_ok (ev := ([c_65], c_67.2.2.2.2.2.2, ttFF)) (n := 55) (cuts := [c_67_20]) (ttCe (hc_65 hm) (ttCo)) hm.1 rfl (by decide +kernel) (by decide +kernel)
/-- LastCloud.edge -/
def c_68 : ttCon := (148, 3, [(2, (0, 1, (9, 0, 0))), (0, (1, 0, (0, (-2147483648), 2147483647))), (0, (1, 0, (0, 0, 1)))], [], [(1, 0, (0, (-2147483648), 2147483647))], [], true, [])
theorem hc_68 {XX : xH → Prop} (hm : ttMan XX) : ttHas XX c_68 := ttMet_ok (ev := ([], c_68.2.2.2.2.2.2, ttFF)) (n := 53) (cuts := []) (ttCo) hm.1 rfl (by decide +kernel) (by decide +kernel)
/-- Polar.fastest -/
def c_69 : ttCon := (67, 1, [(2, (1, 0, (1, 10, 0))), (0, (1, 0, (0, 0, 2000)))], [], [(1, 0, (0, (-1), 5))], [], true, [])
def c_69_4 : Nat × ttCtA := (4, [(2, (1, 0, (1, 10, 0))), (0, (1, 0, (0, 0, 2000))), (0, (1, 0, (0, (-1), 5))), (0, (1, 0, (0, 0, 6)))], [], 6, [((-1), (1, 3), (-1))], [0, 1])
theorem hc_69 {XX : xH → Prop} (hm : ttMan XX) : ttHas XX c_69 := ttMet_ok (ev := ([], c_69.2.2.2.2.2.2, ttFF)) (n := 40) (cuts := [c_69_4]) (ttCo) hm.1 rfl (by decide +kernel) (by decide +kernel)
