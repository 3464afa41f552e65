/-! part 31: leaves, by program (wip/whole/autof.py) -/
def F_26 (v0 : Int32) (v1 : Int32) : Int32 := (if v0 = v1 then 1 else (if v1 = 0 then 1 else (if v0 = 3 then (if v1 = 2 then 1 else (if v0 = 5 then (if v1 = 4 then 1 else 0) else 0)) else (if v0 = 5 then (if v1 = 4 then 1 else 0) else 0))))
set_option maxRecDepth 100000 in
/-- PlayedTruth$Kind.isAs -/
theorem c_26 {h : Hp} {v0 : Int32} {v1 : Int32} : CI 1 26 [.int v0, .int v1] h (fun x h' => h' = h ∧ x = F_26 v0 v1) := by
  refine C.of mo_26 (Nat.le_of_ble_eq_true rfl) (fun X hq => ?_)
  refine k_26_0 (fun c1 => ?_) (fun c1 => ?_)
  · exact k_26_9 (hq _ _ ⟨_, rfl, rfl, by unfold F_26; rw [if_pos c1]⟩)
  · refine k_26_5 (fun c2 => ?_) (fun c2 => ?_)
    · refine k_26_11 (fun c3 => ?_) (fun c3 => ?_)
      · refine k_26_21 (fun c4 => ?_) (fun c4 => ?_)
        · exact k_26_35 (hq _ _ ⟨_, rfl, rfl, by unfold F_26; rw [if_neg c1, if_neg c2, if_neg c3, if_neg c4]⟩)
        · refine k_26_26 (fun c5 => ?_) (fun c5 => ?_)
          · exact k_26_35 (hq _ _ ⟨_, rfl, rfl, by unfold F_26; rw [if_neg c1, if_neg c2, if_neg c3, if_pos c4, if_neg c5]⟩)
          · exact k_26_31 (hq _ _ ⟨_, rfl, rfl, by unfold F_26; rw [if_neg c1, if_neg c2, if_neg c3, if_pos c4, if_pos c5]⟩)
      · refine k_26_16 (fun c4 => ?_) (fun c4 => ?_)
        · exact k_26_31 (hq _ _ ⟨_, rfl, rfl, by unfold F_26; rw [if_neg c1, if_neg c2, if_pos c3, if_pos c4]⟩)
        · refine k_26_21 (fun c5 => ?_) (fun c5 => ?_)
          · exact k_26_35 (hq _ _ ⟨_, rfl, rfl, by unfold F_26; rw [if_neg c1, if_neg c2, if_pos c3, if_neg c4, if_neg c5]⟩)
          · refine k_26_26 (fun c6 => ?_) (fun c6 => ?_)
            · exact k_26_35 (hq _ _ ⟨_, rfl, rfl, by unfold F_26; rw [if_neg c1, if_neg c2, if_pos c3, if_neg c4, if_pos c5, if_neg c6]⟩)
            · exact k_26_31 (hq _ _ ⟨_, rfl, rfl, by unfold F_26; rw [if_neg c1, if_neg c2, if_pos c3, if_neg c4, if_pos c5, if_pos c6]⟩)
    · exact k_26_9 (hq _ _ ⟨_, rfl, rfl, by unfold F_26; rw [if_neg c1, if_pos c2]⟩)

def F_18 (v0 : Int32) (v1 : Int32) (v2 : Int32) (v3 : Int32) : Int32 := (if v2 ≤ 40 then (if v0 = 1 then (((8 * v1)) + (v2 / 10)) else (if v0 = 2 then ((8 * v1)) else (if v0 = 3 then (if 0 < (((8 * v1)) - 3) then (((8 * v1)) - 3) else 0) else (if v0 = 4 then ((5 * v1) + 4) else (if v0 = 5 then (if (v3 - v3 / 2 * 2) = 1 then 0 else (((5 * v1) + 4))) else ((8 * v1))))))) else (if v0 = 1 then (((8 * v1)) + (v2 / 10)) else (if v0 = 2 then ((8 * v1) / 2) else (if v0 = 3 then (if 0 < (((8 * v1) / 2) - 3) then (((8 * v1) / 2) - 3) else 0) else (if v0 = 4 then ((5 * v1) + 4) else (if v0 = 5 then (if (v3 - v3 / 2 * 2) = 1 then 0 else (((5 * v1) + 4))) else ((8 * v1))))))))
set_option maxRecDepth 100000 in
/-- PlayedTruth$Kind.learns -/
theorem c_18 {h : Hp} {v0 : Int32} {v1 : Int32} {v2 : Int32} {v3 : Int32} : CI 1 18 [.int v0, .int v1, .int v2, .int v3] h (fun x h' => h' = h ∧ x = F_18 v0 v1 v2 v3) := by
  refine C.of mo_18 (Nat.le_of_ble_eq_true rfl) (fun X hq => ?_)
  refine k_18_0 (fun c1 => ?_) (fun c1 => ?_)
  · refine k_18_19 (fun c2 => ?_) (fun c2 => ?_) (fun c2 => ?_) (fun c2 => ?_) (fun c2 => ?_) (fun c2_0 c2_1 c2_2 c2_3 c2_4 => ?_)
    · exact k_18_64 (hq _ _ ⟨_, rfl, rfl, by unfold F_18; rw [if_pos c1, if_pos c2]⟩)
    · exact k_18_72 (hq _ _ ⟨_, rfl, rfl, by unfold F_18; rw [if_pos c1, if_neg (show ¬ v0 = 1 by rw [c2]; decide), if_pos c2]⟩)
    · exact k_18_75 (by decide) (hq _ _ ⟨_, rfl, rfl, by unfold F_18; rw [if_pos c1, if_neg (show ¬ v0 = 1 by rw [c2]; decide), if_neg (show ¬ v0 = 2 by rw [c2]; decide), if_pos c2]⟩)
    · exact k_18_84 (hq _ _ ⟨_, rfl, rfl, by unfold F_18; rw [if_pos c1, if_neg (show ¬ v0 = 1 by rw [c2]; decide), if_neg (show ¬ v0 = 2 by rw [c2]; decide), if_neg (show ¬ v0 = 3 by rw [c2]; decide), if_pos c2]⟩)
    · refine k_18_87 (fun c3 => ?_) (fun c3 => ?_)
      · exact k_18_98 (hq _ _ ⟨_, rfl, rfl, by unfold F_18; rw [if_pos c1, if_neg (show ¬ v0 = 1 by rw [c2]; decide), if_neg (show ¬ v0 = 2 by rw [c2]; decide), if_neg (show ¬ v0 = 3 by rw [c2]; decide), if_neg (show ¬ v0 = 4 by rw [c2]; decide), if_pos c2, if_neg c3]⟩)
      · exact k_18_94 (hq _ _ ⟨_, rfl, rfl, by unfold F_18; rw [if_pos c1, if_neg (show ¬ v0 = 1 by rw [c2]; decide), if_neg (show ¬ v0 = 2 by rw [c2]; decide), if_neg (show ¬ v0 = 3 by rw [c2]; decide), if_neg (show ¬ v0 = 4 by rw [c2]; decide), if_pos c2, if_pos c3]⟩)
    · exact k_18_101 (hq _ _ ⟨_, rfl, rfl, by unfold F_18; rw [if_pos c1, if_neg c2_0, if_neg c2_1, if_neg c2_2, if_neg c2_3, if_neg c2_4]⟩)
  · refine k_18_12 (fun c2 => ?_) (fun c2 => ?_) (fun c2 => ?_) (fun c2 => ?_) (fun c2 => ?_) (fun c2_0 c2_1 c2_2 c2_3 c2_4 => ?_)
    · exact k_18_64 (hq _ _ ⟨_, rfl, rfl, by unfold F_18; rw [if_neg c1, if_pos c2]⟩)
    · exact k_18_72 (hq _ _ ⟨_, rfl, rfl, by unfold F_18; rw [if_neg c1, if_neg (show ¬ v0 = 1 by rw [c2]; decide), if_pos c2]⟩)
    · exact k_18_75 (by decide) (hq _ _ ⟨_, rfl, rfl, by unfold F_18; rw [if_neg c1, if_neg (show ¬ v0 = 1 by rw [c2]; decide), if_neg (show ¬ v0 = 2 by rw [c2]; decide), if_pos c2]⟩)
    · exact k_18_84 (hq _ _ ⟨_, rfl, rfl, by unfold F_18; rw [if_neg c1, if_neg (show ¬ v0 = 1 by rw [c2]; decide), if_neg (show ¬ v0 = 2 by rw [c2]; decide), if_neg (show ¬ v0 = 3 by rw [c2]; decide), if_pos c2]⟩)
    · refine k_18_87 (fun c3 => ?_) (fun c3 => ?_)
      · exact k_18_98 (hq _ _ ⟨_, rfl, rfl, by unfold F_18; rw [if_neg c1, if_neg (show ¬ v0 = 1 by rw [c2]; decide), if_neg (show ¬ v0 = 2 by rw [c2]; decide), if_neg (show ¬ v0 = 3 by rw [c2]; decide), if_neg (show ¬ v0 = 4 by rw [c2]; decide), if_pos c2, if_neg c3]⟩)
      · exact k_18_94 (hq _ _ ⟨_, rfl, rfl, by unfold F_18; rw [if_neg c1, if_neg (show ¬ v0 = 1 by rw [c2]; decide), if_neg (show ¬ v0 = 2 by rw [c2]; decide), if_neg (show ¬ v0 = 3 by rw [c2]; decide), if_neg (show ¬ v0 = 4 by rw [c2]; decide), if_pos c2, if_pos c3]⟩)
    · exact k_18_101 (hq _ _ ⟨_, rfl, rfl, by unfold F_18; rw [if_neg c1, if_neg c2_0, if_neg c2_1, if_neg c2_2, if_neg c2_3, if_neg c2_4]⟩)

def F_22 (v0 : Int32) (v1 : Int32) (v2 : Int32) (v3 : Int32) : Int32 := (if v0 = 1 then 9 else (if v0 = 2 then ((if 0 < ((10 + v1) - (v2 / 9)) then ((10 + v1) - (v2 / 9)) else 0) + v1) else (if v0 = 3 then (2 * ((if 0 < ((10 + v1) - (v2 / 9)) then ((10 + v1) - (v2 / 9)) else 0) + v1)) else (if v0 = 4 then ((if 0 < ((10 + v1) - (v2 / 9)) then ((10 + v1) - (v2 / 9)) else 0) / 2) else (if v0 = 5 then (((if 0 < ((10 + v1) - (v2 / 9)) then ((10 + v1) - (v2 / 9)) else 0) / 2) + v3) else (if 0 < ((10 + v1) - (v2 / 9)) then ((10 + v1) - (v2 / 9)) else 0))))))
set_option maxRecDepth 100000 in
/-- PlayedTruth$Kind.draws -/
theorem c_22 {h : Hp} {v0 : Int32} {v1 : Int32} {v2 : Int32} {v3 : Int32} : CI 1 22 [.int v0, .int v1, .int v2, .int v3] h (fun x h' => h' = h ∧ x = F_22 v0 v1 v2 v3) := by
  refine C.of mo_22 (Nat.le_of_ble_eq_true rfl) (fun X hq => ?_)
  refine k_22_0 (by decide) (fun c1 => ?_) (fun c1 => ?_) (fun c1 => ?_) (fun c1 => ?_) (fun c1 => ?_) (fun c1_0 c1_1 c1_2 c1_3 c1_4 => ?_)
  · exact k_22_52 (hq _ _ ⟨_, rfl, rfl, by unfold F_22; rw [if_pos c1]⟩)
  · exact k_22_55 (hq _ _ ⟨_, rfl, rfl, by unfold F_22; rw [if_neg (show ¬ v0 = 1 by rw [c1]; decide), if_pos c1]⟩)
  · exact k_22_60 (hq _ _ ⟨_, rfl, rfl, by unfold F_22; rw [if_neg (show ¬ v0 = 1 by rw [c1]; decide), if_neg (show ¬ v0 = 2 by rw [c1]; decide), if_pos c1]⟩)
  · exact k_22_67 (hq _ _ ⟨_, rfl, rfl, by unfold F_22; rw [if_neg (show ¬ v0 = 1 by rw [c1]; decide), if_neg (show ¬ v0 = 2 by rw [c1]; decide), if_neg (show ¬ v0 = 3 by rw [c1]; decide), if_pos c1]⟩)
  · exact k_22_72 (hq _ _ ⟨_, rfl, rfl, by unfold F_22; rw [if_neg (show ¬ v0 = 1 by rw [c1]; decide), if_neg (show ¬ v0 = 2 by rw [c1]; decide), if_neg (show ¬ v0 = 3 by rw [c1]; decide), if_neg (show ¬ v0 = 4 by rw [c1]; decide), if_pos c1]⟩)
  · exact k_22_79 (hq _ _ ⟨_, rfl, rfl, by unfold F_22; rw [if_neg c1_0, if_neg c1_1, if_neg c1_2, if_neg c1_3, if_neg c1_4]⟩)

def F_177 (v0 : Int64) (v2 : Int64) (v4 : Int64) : Int32 := (if (lg_cmp v0 v2) < 0 then 0 else (if 0 < (lg_cmp v0 v4) then 0 else 1))
set_option maxRecDepth 100000 in
/-- PlayedTruthModel.in -/
theorem c_177 {h : Hp} {v0 : Int64} {v2 : Int64} {v4 : Int64} : CI 1 177 [.long v0, .long v2, .long v4] h (fun x h' => h' = h ∧ x = F_177 v0 v2 v4) := by
  refine C.of mo_177 (Nat.le_of_ble_eq_true rfl) (fun X hq => ?_)
  refine k_177_0 (fun c1 => ?_) (fun c1 => ?_)
  · exact k_177_17 (hq _ _ ⟨_, rfl, rfl, by unfold F_177; rw [if_pos c1]⟩)
  · refine k_177_6 (fun c2 => ?_) (fun c2 => ?_)
    · exact k_177_17 (hq _ _ ⟨_, rfl, rfl, by unfold F_177; rw [if_neg c1, if_pos c2]⟩)
    · exact k_177_13 (hq _ _ ⟨_, rfl, rfl, by unfold F_177; rw [if_neg c1, if_neg c2]⟩)

def F_186 (v0 : Int32) (v1 : Int32) (v2 : Int32) : Int32 := (if v1 ≤ v0 then (if v0 ≤ v2 then v0 else v2) else v1)
set_option maxRecDepth 100000 in
/-- PlayedTruthModel.held -/
theorem c_186 {h : Hp} {v0 : Int32} {v1 : Int32} {v2 : Int32} : CI 1 186 [.int v0, .int v1, .int v2] h (fun x h' => h' = h ∧ x = F_186 v0 v1 v2) := by
  refine C.of mo_186 (Nat.le_of_ble_eq_true rfl) (fun X hq => ?_)
  refine k_186_0 (fun c1 => ?_) (fun c1 => ?_)
  · refine k_186_9 (fun c2 => ?_) (fun c2 => ?_)
    · exact k_186_18 (hq _ _ ⟨_, rfl, rfl, by unfold F_186; rw [if_pos c1, if_pos c2]⟩)
    · exact k_186_14 (hq _ _ ⟨_, rfl, rfl, by unfold F_186; rw [if_pos c1, if_neg c2]⟩)
  · exact k_186_5 (hq _ _ ⟨_, rfl, rfl, by unfold F_186; rw [if_neg c1]⟩)

def F_243 (v0 : Int32) : Int32 := (if 0 ≤ v0 then v0 else (-v0))
set_option maxRecDepth 100000 in
/-- PlayedTruthModel.size -/
theorem c_243 {h : Hp} {v0 : Int32} : CI 1 243 [.int v0] h (fun x h' => h' = h ∧ x = F_243 v0) := by
  refine C.of mo_243 (Nat.le_of_ble_eq_true rfl) (fun X hq => ?_)
  refine k_243_0 (fun c1 => ?_) (fun c1 => ?_)
  · exact k_243_9 (hq _ _ ⟨_, rfl, rfl, by unfold F_243; rw [if_pos c1]⟩)
  · exact k_243_4 (hq _ _ ⟨_, rfl, rfl, by unfold F_243; rw [if_neg c1]⟩)

def F_192 (v0 : Int32) : Int32 := (if v0 = 3 then 2 else (if v0 = 5 then 4 else 0))
set_option maxRecDepth 100000 in
/-- PlayedTruthModel.above -/
theorem c_192 {h : Hp} {v0 : Int32} : CI 1 192 [.int v0] h (fun x h' => h' = h ∧ x = F_192 v0) := by
  refine C.of mo_192 (Nat.le_of_ble_eq_true rfl) (fun X hq => ?_)
  refine k_192_0 (fun c1 => ?_) (fun c1 => ?_)
  · refine k_192_9 (fun c2 => ?_) (fun c2 => ?_)
    · exact k_192_18 (hq _ _ ⟨_, rfl, rfl, by unfold F_192; rw [if_neg c1, if_neg c2]⟩)
    · exact k_192_14 (hq _ _ ⟨_, rfl, rfl, by unfold F_192; rw [if_neg c1, if_pos c2]⟩)
  · exact k_192_5 (hq _ _ ⟨_, rfl, rfl, by unfold F_192; rw [if_pos c1]⟩)

def F_185 (v0 : Int32) (v1 : Int32) (v2 : Int32) (v3 : Int32) : Int32 := (if v2 ≤ 40 then (if v0 = 1 then ((8 * v1) + (v2 / 10)) else (if v0 = 2 then (8 * v1) else (if v0 = 3 then (F_186 ((8 * v1) - 3) 0 99) else (if v0 = 4 then ((5 * v1) + 4) else (if v0 = 5 then (if (v3 - v3 / 2 * 2) = 1 then 0 else ((5 * v1) + 4)) else (8 * v1)))))) else (if v0 = 1 then ((8 * v1) + (v2 / 10)) else (if v0 = 2 then (4 * v1) else (if v0 = 3 then (F_186 ((4 * v1) - 3) 0 99) else (if v0 = 4 then ((5 * v1) + 4) else (if v0 = 5 then (if (v3 - v3 / 2 * 2) = 1 then 0 else ((5 * v1) + 4)) else (8 * v1)))))))
set_option maxRecDepth 100000 in
/-- PlayedTruthModel.learnsBy -/
theorem c_185 {h : Hp} {v0 : Int32} {v1 : Int32} {v2 : Int32} {v3 : Int32} : CI 2 185 [.int v0, .int v1, .int v2, .int v3] h (fun x h' => h' = h ∧ x = F_185 v0 v1 v2 v3) := by
  refine C.of mo_185 (Nat.le_of_ble_eq_true rfl) (fun X hq => ?_)
  refine k_185_0 (fun c1 => ?_) (fun c1 => ?_)
  · refine k_185_12 (fun c2 => ?_) (fun c2 => ?_) (fun c2 => ?_) (fun c2 => ?_) (fun c2 => ?_) (fun c2_0 c2_1 c2_2 c2_3 c2_4 => ?_)
    · exact k_185_52 (hq _ _ ⟨_, rfl, rfl, by unfold F_185; rw [if_pos c1, if_pos c2]⟩)
    · exact k_185_62 (hq _ _ ⟨_, rfl, rfl, by unfold F_185; rw [if_pos c1, if_neg (show ¬ v0 = 1 by rw [c2]; decide), if_pos c2]⟩)
    · refine k_185_65 (by decide) c_186 ?_
      rintro _ _ ⟨rfl, rfl⟩
      exact k_185_75 (hq _ _ ⟨_, rfl, rfl, by unfold F_185; rw [if_pos c1, if_neg (show ¬ v0 = 1 by rw [c2]; decide), if_neg (show ¬ v0 = 2 by rw [c2]; decide), if_pos c2]⟩)
    · exact k_185_76 (hq _ _ ⟨_, rfl, rfl, by unfold F_185; rw [if_pos c1, if_neg (show ¬ v0 = 1 by rw [c2]; decide), if_neg (show ¬ v0 = 2 by rw [c2]; decide), if_neg (show ¬ v0 = 3 by rw [c2]; decide), if_pos c2]⟩)
    · refine k_185_82 (fun c3 => ?_) (fun c3 => ?_)
      · exact k_185_93 (hq _ _ ⟨_, rfl, rfl, by unfold F_185; rw [if_pos c1, if_neg (show ¬ v0 = 1 by rw [c2]; decide), if_neg (show ¬ v0 = 2 by rw [c2]; decide), if_neg (show ¬ v0 = 3 by rw [c2]; decide), if_neg (show ¬ v0 = 4 by rw [c2]; decide), if_pos c2, if_neg c3]⟩)
      · exact k_185_89 (hq _ _ ⟨_, rfl, rfl, by unfold F_185; rw [if_pos c1, if_neg (show ¬ v0 = 1 by rw [c2]; decide), if_neg (show ¬ v0 = 2 by rw [c2]; decide), if_neg (show ¬ v0 = 3 by rw [c2]; decide), if_neg (show ¬ v0 = 4 by rw [c2]; decide), if_pos c2, if_pos c3]⟩)
    · exact k_185_99 (hq _ _ ⟨_, rfl, rfl, by unfold F_185; rw [if_pos c1, if_neg c2_0, if_neg c2_1, if_neg c2_2, if_neg c2_3, if_neg c2_4]⟩)
  · refine k_185_6 (fun c2 => ?_) (fun c2 => ?_) (fun c2 => ?_) (fun c2 => ?_) (fun c2 => ?_) (fun c2_0 c2_1 c2_2 c2_3 c2_4 => ?_)
    · exact k_185_52 (hq _ _ ⟨_, rfl, rfl, by unfold F_185; rw [if_neg c1, if_pos c2]⟩)
    · exact k_185_62 (hq _ _ ⟨_, rfl, rfl, by unfold F_185; rw [if_neg c1, if_neg (show ¬ v0 = 1 by rw [c2]; decide), if_pos c2]⟩)
    · refine k_185_65 (by decide) c_186 ?_
      rintro _ _ ⟨rfl, rfl⟩
      exact k_185_75 (hq _ _ ⟨_, rfl, rfl, by unfold F_185; rw [if_neg c1, if_neg (show ¬ v0 = 1 by rw [c2]; decide), if_neg (show ¬ v0 = 2 by rw [c2]; decide), if_pos c2]⟩)
    · exact k_185_76 (hq _ _ ⟨_, rfl, rfl, by unfold F_185; rw [if_neg c1, if_neg (show ¬ v0 = 1 by rw [c2]; decide), if_neg (show ¬ v0 = 2 by rw [c2]; decide), if_neg (show ¬ v0 = 3 by rw [c2]; decide), if_pos c2]⟩)
    · refine k_185_82 (fun c3 => ?_) (fun c3 => ?_)
      · exact k_185_93 (hq _ _ ⟨_, rfl, rfl, by unfold F_185; rw [if_neg c1, if_neg (show ¬ v0 = 1 by rw [c2]; decide), if_neg (show ¬ v0 = 2 by rw [c2]; decide), if_neg (show ¬ v0 = 3 by rw [c2]; decide), if_neg (show ¬ v0 = 4 by rw [c2]; decide), if_pos c2, if_neg c3]⟩)
      · exact k_185_89 (hq _ _ ⟨_, rfl, rfl, by unfold F_185; rw [if_neg c1, if_neg (show ¬ v0 = 1 by rw [c2]; decide), if_neg (show ¬ v0 = 2 by rw [c2]; decide), if_neg (show ¬ v0 = 3 by rw [c2]; decide), if_neg (show ¬ v0 = 4 by rw [c2]; decide), if_pos c2, if_pos c3]⟩)
    · exact k_185_99 (hq _ _ ⟨_, rfl, rfl, by unfold F_185; rw [if_neg c1, if_neg c2_0, if_neg c2_1, if_neg c2_2, if_neg c2_3, if_neg c2_4]⟩)

def F_189 (v0 : Int32) (v1 : Int32) (v2 : Int32) (v3 : Int32) : Int32 := (if v0 = 1 then 9 else (if v0 = 2 then (((F_186 ((10 + v1) - (v2 / 9)) 0 99)) + v1) else (if v0 = 3 then (2 * (((F_186 ((10 + v1) - (v2 / 9)) 0 99)) + v1)) else (if v0 = 4 then (((F_186 ((10 + v1) - (v2 / 9)) 0 99)) / 2) else (if v0 = 5 then ((((F_186 ((10 + v1) - (v2 / 9)) 0 99)) / 2) + v3) else ((F_186 ((10 + v1) - (v2 / 9)) 0 99)))))))
set_option maxRecDepth 100000 in
/-- PlayedTruthModel.drawsBy -/
theorem c_189 {h : Hp} {v0 : Int32} {v1 : Int32} {v2 : Int32} {v3 : Int32} : CI 2 189 [.int v0, .int v1, .int v2, .int v3] h (fun x h' => h' = h ∧ x = F_189 v0 v1 v2 v3) := by
  refine C.of mo_189 (Nat.le_of_ble_eq_true rfl) (fun X hq => ?_)
  refine k_189_0 (by decide) c_186 ?_
  rintro _ _ ⟨rfl, rfl⟩
  refine k_189_15 (fun c1 => ?_) (fun c1 => ?_) (fun c1 => ?_) (fun c1 => ?_) (fun c1 => ?_) (fun c1_0 c1_1 c1_2 c1_3 c1_4 => ?_)
  · exact k_189_52 (hq _ _ ⟨_, rfl, rfl, by unfold F_189; rw [if_pos c1]⟩)
  · exact k_189_55 (hq _ _ ⟨_, rfl, rfl, by unfold F_189; rw [if_neg (show ¬ v0 = 1 by rw [c1]; decide), if_pos c1]⟩)
  · exact k_189_60 (hq _ _ ⟨_, rfl, rfl, by unfold F_189; rw [if_neg (show ¬ v0 = 1 by rw [c1]; decide), if_neg (show ¬ v0 = 2 by rw [c1]; decide), if_pos c1]⟩)
  · exact k_189_67 (hq _ _ ⟨_, rfl, rfl, by unfold F_189; rw [if_neg (show ¬ v0 = 1 by rw [c1]; decide), if_neg (show ¬ v0 = 2 by rw [c1]; decide), if_neg (show ¬ v0 = 3 by rw [c1]; decide), if_pos c1]⟩)
  · exact k_189_72 (hq _ _ ⟨_, rfl, rfl, by unfold F_189; rw [if_neg (show ¬ v0 = 1 by rw [c1]; decide), if_neg (show ¬ v0 = 2 by rw [c1]; decide), if_neg (show ¬ v0 = 3 by rw [c1]; decide), if_neg (show ¬ v0 = 4 by rw [c1]; decide), if_pos c1]⟩)
  · exact k_189_79 (hq _ _ ⟨_, rfl, rfl, by unfold F_189; rw [if_neg c1_0, if_neg c1_1, if_neg c1_2, if_neg c1_3, if_neg c1_4]⟩)

def F_195 (v0 : Int32) (v1 : Int32) (v2 : Int32) : Int32 := (if v0 = 38 then (v1 * v2) else (if v0 = 60 then (if v2 ≤ v1 then 0 else 1) else (if v0 = 61 then (if v1 = v2 then 1 else 0) else (if v0 = 62 then (if v1 ≤ v2 then 0 else 1) else (if (v1 + v2) ≤ 0 then 0 else 1)))))
set_option maxRecDepth 100000 in
/-- PlayedTruthModel.done -/
theorem c_195 {h : Hp} {v0 : Int32} {v1 : Int32} {v2 : Int32} : CI 1 195 [.int v0, .int v1, .int v2] h (fun x h' => h' = h ∧ x = F_195 v0 v1 v2) := by
  refine C.of mo_195 (Nat.le_of_ble_eq_true rfl) (fun X hq => ?_)
  refine k_195_0 (fun c1 => ?_) (fun c1 => ?_) (fun c1 => ?_) (fun c1 => ?_) (fun c1_0 c1_1 c1_2 c1_3 => ?_)
  · exact k_195_77 (hq _ _ ⟨_, rfl, rfl, by unfold F_195; rw [if_pos c1]⟩)
  · refine k_195_44 (fun c2 => ?_) (fun c2 => ?_)
    · exact k_195_53 (hq _ _ ⟨_, rfl, rfl, by unfold F_195; rw [if_neg (show ¬ v0 = 38 by rw [c1]; decide), if_pos c1, if_pos c2]⟩)
    · exact k_195_49 (hq _ _ ⟨_, rfl, rfl, by unfold F_195; rw [if_neg (show ¬ v0 = 38 by rw [c1]; decide), if_pos c1, if_neg c2]⟩)
  · refine k_195_55 (fun c2 => ?_) (fun c2 => ?_)
    · exact k_195_64 (hq _ _ ⟨_, rfl, rfl, by unfold F_195; rw [if_neg (show ¬ v0 = 38 by rw [c1]; decide), if_neg (show ¬ v0 = 60 by rw [c1]; decide), if_pos c1, if_neg c2]⟩)
    · exact k_195_60 (hq _ _ ⟨_, rfl, rfl, by unfold F_195; rw [if_neg (show ¬ v0 = 38 by rw [c1]; decide), if_neg (show ¬ v0 = 60 by rw [c1]; decide), if_pos c1, if_pos c2]⟩)
  · refine k_195_66 (fun c2 => ?_) (fun c2 => ?_)
    · exact k_195_75 (hq _ _ ⟨_, rfl, rfl, by unfold F_195; rw [if_neg (show ¬ v0 = 38 by rw [c1]; decide), if_neg (show ¬ v0 = 60 by rw [c1]; decide), if_neg (show ¬ v0 = 61 by rw [c1]; decide), if_pos c1, if_pos c2]⟩)
    · exact k_195_71 (hq _ _ ⟨_, rfl, rfl, by unfold F_195; rw [if_neg (show ¬ v0 = 38 by rw [c1]; decide), if_neg (show ¬ v0 = 60 by rw [c1]; decide), if_neg (show ¬ v0 = 61 by rw [c1]; decide), if_pos c1, if_neg c2]⟩)
  · refine k_195_81 (fun c5 => ?_) (fun c5 => ?_)
    · exact k_195_91 (hq _ _ ⟨_, rfl, rfl, by unfold F_195; rw [if_neg c1_0, if_neg c1_1, if_neg c1_2, if_neg c1_3, if_pos c5]⟩)
    · exact k_195_87 (hq _ _ ⟨_, rfl, rfl, by unfold F_195; rw [if_neg c1_0, if_neg c1_1, if_neg c1_2, if_neg c1_3, if_neg c5]⟩)

def F_276 (v0 : Int32) : Int32 := (F_177 (Int32.toInt64 v0) 0 3)
set_option maxRecDepth 100000 in
/-- PlayedTruthModel.isSheet -/
theorem c_276 {h : Hp} {v0 : Int32} : CI 2 276 [.int v0] h (fun x h' => h' = h ∧ x = F_276 v0) := by
  refine C.of mo_276 (Nat.le_of_ble_eq_true rfl) (fun X hq => ?_)
  refine k_276_0 (by decide) c_177 ?_
  rintro _ _ ⟨rfl, rfl⟩
  exact k_276_9 (by unfold F_177; (repeat' split) <;> first | exact z01_0 | exact z01_1) (hq _ _ ⟨_, rfl, rfl, by unfold F_276; rfl⟩)

def F_247 (v0 : Int32) : Int32 := (F_177 (Int32.toInt64 v0) 0 4)
set_option maxRecDepth 100000 in
/-- PlayedTruthModel.isPlan -/
theorem c_247 {h : Hp} {v0 : Int32} : CI 2 247 [.int v0] h (fun x h' => h' = h ∧ x = F_247 v0) := by
  refine C.of mo_247 (Nat.le_of_ble_eq_true rfl) (fun X hq => ?_)
  refine k_247_0 (by decide) c_177 ?_
  rintro _ _ ⟨rfl, rfl⟩
  exact k_247_9 (by unfold F_177; (repeat' split) <;> first | exact z01_0 | exact z01_1) (hq _ _ ⟨_, rfl, rfl, by unfold F_247; rfl⟩)

def F_147 (v0 : Int32) : Int32 := (if v0 < 0 then 0 else (if 4 ≤ v0 then 0 else 1))
set_option maxRecDepth 100000 in
/-- PlayedTruth$Host.isSheet -/
theorem c_147 {h : Hp} {v0 : Int32} : CI 1 147 [.int v0] h (fun x h' => h' = h ∧ x = F_147 v0) := by
  refine C.of mo_147 (Nat.le_of_ble_eq_true rfl) (fun X hq => ?_)
  refine k_147_0 (fun c1 => ?_) (fun c1 => ?_)
  · exact k_147_13 (hq _ _ ⟨_, rfl, rfl, by unfold F_147; rw [if_pos c1]⟩)
  · refine k_147_4 (fun c2 => ?_) (fun c2 => ?_)
    · exact k_147_13 (hq _ _ ⟨_, rfl, rfl, by unfold F_147; rw [if_neg c1, if_pos c2]⟩)
    · exact k_147_9 (hq _ _ ⟨_, rfl, rfl, by unfold F_147; rw [if_neg c1, if_neg c2]⟩)

def F_158 (v0 : Int32) : Int32 := (if v0 < 0 then 0 else (if 4 ≤ v0 then 0 else 1))
set_option maxRecDepth 100000 in
/-- PlayedTruth$Host.isShelf -/
theorem c_158 {h : Hp} {v0 : Int32} : CI 1 158 [.int v0] h (fun x h' => h' = h ∧ x = F_158 v0) := by
  refine C.of mo_158 (Nat.le_of_ble_eq_true rfl) (fun X hq => ?_)
  refine k_158_0 (fun c1 => ?_) (fun c1 => ?_)
  · exact k_158_13 (hq _ _ ⟨_, rfl, rfl, by unfold F_158; rw [if_pos c1]⟩)
  · refine k_158_4 (fun c2 => ?_) (fun c2 => ?_)
    · exact k_158_13 (hq _ _ ⟨_, rfl, rfl, by unfold F_158; rw [if_neg c1, if_pos c2]⟩)
    · exact k_158_9 (hq _ _ ⟨_, rfl, rfl, by unfold F_158; rw [if_neg c1, if_neg c2]⟩)

def F_151 (v0 : Int32) (v1 : Int32) : Int32 := (if v0 = 0 then ((Int32.toInt8 v1).toInt32) else (if v0 = 1 then ((Int32.toInt16 v1).toInt32) else (if v0 = 2 then v1 else (if v0 = 3 then v1 else (if v0 = 4 then (if v1 = 0 then 0 else 1) else v1)))))
set_option maxRecDepth 100000 in
/-- PlayedTruth$Host.narrowed -/
theorem c_151 {h : Hp} {v0 : Int32} {v1 : Int32} : CI 1 151 [.int v0, .int v1] h (fun x h' => h' = h ∧ x = F_151 v0 v1) := by
  refine C.of mo_151 (Nat.le_of_ble_eq_true rfl) (fun X hq => ?_)
  refine k_151_0 (fun c1 => ?_) (fun c1 => ?_) (fun c1 => ?_) (fun c1 => ?_) (fun c1 => ?_) (fun c1_0 c1_1 c1_2 c1_3 c1_4 => ?_)
  · exact k_151_36 (hq _ _ ⟨_, rfl, rfl, by unfold F_151; rw [if_pos c1]⟩)
  · exact k_151_39 (hq _ _ ⟨_, rfl, rfl, by unfold F_151; rw [if_neg (show ¬ v0 = 0 by rw [c1]; decide), if_pos c1]⟩)
  · exact k_151_52 (hq _ _ ⟨_, rfl, rfl, by unfold F_151; rw [if_neg (show ¬ v0 = 0 by rw [c1]; decide), if_neg (show ¬ v0 = 1 by rw [c1]; decide), if_pos c1]⟩)
  · exact k_151_52 (hq _ _ ⟨_, rfl, rfl, by unfold F_151; rw [if_neg (show ¬ v0 = 0 by rw [c1]; decide), if_neg (show ¬ v0 = 1 by rw [c1]; decide), if_neg (show ¬ v0 = 2 by rw [c1]; decide), if_pos c1]⟩)
  · refine k_151_42 (fun c2 => ?_) (fun c2 => ?_)
    · exact k_151_50 (hq _ _ ⟨_, rfl, rfl, by unfold F_151; rw [if_neg (show ¬ v0 = 0 by rw [c1]; decide), if_neg (show ¬ v0 = 1 by rw [c1]; decide), if_neg (show ¬ v0 = 2 by rw [c1]; decide), if_neg (show ¬ v0 = 3 by rw [c1]; decide), if_pos c1, if_pos c2]⟩)
    · exact k_151_46 (hq _ _ ⟨_, rfl, rfl, by unfold F_151; rw [if_neg (show ¬ v0 = 0 by rw [c1]; decide), if_neg (show ¬ v0 = 1 by rw [c1]; decide), if_neg (show ¬ v0 = 2 by rw [c1]; decide), if_neg (show ¬ v0 = 3 by rw [c1]; decide), if_pos c1, if_neg c2]⟩)
  · exact k_151_52 (hq _ _ ⟨_, rfl, rfl, by unfold F_151; rw [if_neg c1_0, if_neg c1_1, if_neg c1_2, if_neg c1_3, if_neg c1_4]⟩)

def F_48 (v0 : Int32) : Int32 := (if v0 < 97 then 0 else (if 122 < v0 then 0 else 1))
set_option maxRecDepth 100000 in
/-- PlayedTruth$RuleReader.isLetter -/
theorem c_48 {h : Hp} {v0 : Int32} : CI 1 48 [.int v0] h (fun x h' => h' = h ∧ x = F_48 v0) := by
  refine C.of mo_48 (Nat.le_of_ble_eq_true rfl) (fun X hq => ?_)
  refine k_48_0 (fun c1 => ?_) (fun c1 => ?_)
  · exact k_48_16 (hq _ _ ⟨_, rfl, rfl, by unfold F_48; rw [if_pos c1]⟩)
  · refine k_48_6 (fun c2 => ?_) (fun c2 => ?_)
    · exact k_48_16 (hq _ _ ⟨_, rfl, rfl, by unfold F_48; rw [if_neg c1, if_pos c2]⟩)
    · exact k_48_12 (hq _ _ ⟨_, rfl, rfl, by unfold F_48; rw [if_neg c1, if_neg c2]⟩)

def F_49 (v0 : Int32) : Int32 := (if v0 < 48 then 0 else (if 57 < v0 then 0 else 1))
set_option maxRecDepth 100000 in
/-- PlayedTruth$RuleReader.isDigit -/
theorem c_49 {h : Hp} {v0 : Int32} : CI 1 49 [.int v0] h (fun x h' => h' = h ∧ x = F_49 v0) := by
  refine C.of mo_49 (Nat.le_of_ble_eq_true rfl) (fun X hq => ?_)
  refine k_49_0 (fun c1 => ?_) (fun c1 => ?_)
  · exact k_49_16 (hq _ _ ⟨_, rfl, rfl, by unfold F_49; rw [if_pos c1]⟩)
  · refine k_49_6 (fun c2 => ?_) (fun c2 => ?_)
    · exact k_49_16 (hq _ _ ⟨_, rfl, rfl, by unfold F_49; rw [if_neg c1, if_pos c2]⟩)
    · exact k_49_12 (hq _ _ ⟨_, rfl, rfl, by unfold F_49; rw [if_neg c1, if_neg c2]⟩)

