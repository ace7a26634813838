/-! contracts that rows by hand give -/
def ttFF : ttE4 := [((73, 0, 4), false, 0), ((184, 0, 3), false, 0), ((184, 5, 155), false, 0), ((185, 0, 587), false, 0), ((186, 0, 2), false, 0), ((190, 0, 15), false, 0), ((191, 0, 4799), false, 0), ((196, 0, 93695), false, 0), ((183, 22, 22), false, 0), ((183, 29, 29), true, (-1))]
/-- Reader.isWord -/
def m_isWord : ttCon := (77, 6, [(2, (0, 3, (9, 0, 0))), (2, (1, 0, (0, (-28), (-2))))], [], [(1, 0, (0, 0, 1))], [], true, [])
/-- LastCloud.planOf -/
def m_planOf : ttCon := (159, 7, [(2, (0, 1, (9, 0, 0))), (0, (1, 0, (0, 0, 3)))], [], [(1, 0, (1, 210, 0))], [], false, [(73, 0, 4), (210, 0, 14), (211, 0, 46847), (212, 0, 46847), (213, 0, 46847), (214, 0, 46847), (215, 0, 46847), (216, 0, 239), (217, 0, 7), (218, 0, 7), (219, 0, 7)])
/-- LastCloud.trialPlan -/
def m_trialPlan : ttCon := (160, 7, [(2, (0, 1, (9, 0, 0)))], [], [(1, 0, (1, 210, 0))], [], false, [(73, 0, 4), (210, 0, 14), (211, 0, 46847), (212, 0, 46847), (213, 0, 46847), (214, 0, 46847), (215, 0, 46847), (216, 0, 239), (217, 0, 7), (218, 0, 7), (219, 0, 7)])
/-- LastCloudModel.forgets -/
def m_forgets : ttCon := (266, 1, [(2, (0, 183, (9, 0, 0)))], [], [(0, 0, (9, 0, 0))], [], true, [(193, 0, 975), (183, 22, 22), (183, 29, 29)])
/-- LastCloudModel.laysWays -/
def m_laysWays : ttCon := (250, 7, [(2, (0, 183, (9, 0, 0)))], [], [(0, 0, (9, 0, 0))], [], true, [(190, 0, 15), (191, 0, 4799), (183, 22, 22)])
/-- LastCloudModel.glides -/
def m_glides : ttCon := (253, 8, [(2, (0, 183, (9, 0, 0))), (0, (1, 0, (0, 0, 7))), (0, (1, 0, (0, 0, 60))), (0, (1, 0, (0, 0, 1)))], [], [(0, 0, (9, 0, 0))], [], true, [(190, 0, 15), (191, 0, 4799), (192, 0, 7), (183, 22, 22)])
/-- LastCloudModel.solves -/
def m_solves : ttCon := (274, 11, [(2, (0, 183, (9, 0, 0))), (0, (1, 0, (0, (-2147483648), 2147483647)))], [], [(0, 0, (9, 0, 0))], [], true, [(190, 0, 15), (191, 0, 4799), (192, 0, 7), (193, 0, 975), (195, 0, 93695), (196, 0, 93695), (197, 0, 93695), (198, 0, 7), (183, 22, 22), (183, 29, 29)])
/-- LastCloudModel.reckons -/
def m_reckons : ttCon := (316, 9, [(2, (0, 183, (9, 0, 0))), (0, (1, 0, (0, (-2147483648), 2147483647)))], [], [(0, 0, (9, 0, 0))], [], true, [(204, 0, 3903), (205, 0, 7), (183, 22, 22), (183, 48, 48), (190, 0, 15), (191, 0, 4799)])
def ttM_0 (XX : xH → Prop) : Prop := ttOut XX ttFF
def ttM_1 (XX : xH → Prop) : Prop := ttM_0 XX ∧ ttHas XX m_isWord
def ttM_2 (XX : xH → Prop) : Prop := ttM_1 XX ∧ ttHas XX m_planOf
def ttM_3 (XX : xH → Prop) : Prop := ttM_2 XX ∧ ttHas XX m_trialPlan
def ttM_4 (XX : xH → Prop) : Prop := ttM_3 XX ∧ ttHas XX m_forgets
def ttM_5 (XX : xH → Prop) : Prop := ttM_4 XX ∧ ttHas XX m_laysWays
def ttM_6 (XX : xH → Prop) : Prop := ttM_5 XX ∧ ttHas XX m_glides
def ttM_7 (XX : xH → Prop) : Prop := ttM_6 XX ∧ ttHas XX m_solves
def ttM_8 (XX : xH → Prop) : Prop := ttM_7 XX ∧ ttHas XX m_reckons
theorem ttCo {XX : xH → Prop} : ∀ c ∈ ([] : List ttCon), ttHas XX c := fun _ h => absurd h List.not_mem_nil
theorem ttCe {XX : xH → Prop} {c : ttCon} {l : List ttCon} (h : ttHas XX c) (t : ∀ d ∈ l, ttHas XX d) : ∀ d ∈ c :: l, ttHas XX d := fun d hd => (List.mem_cons.mp hd).elim (fun e => e ▸ h) (t d)
