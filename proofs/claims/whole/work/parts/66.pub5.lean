/-! part 66: many, keep, again -/
def bcI (v0 : Int32) : Int32 := ((((((((v0 - (((v0.toUInt32 >>> ((1 : Int32).toUInt32 &&& Int32.toUInt32 31)).toInt32) &&& 1431655765)) &&& 858993459) + ((((v0 - (((v0.toUInt32 >>> ((1 : Int32).toUInt32 &&& Int32.toUInt32 31)).toInt32) &&& 1431655765)).toUInt32 >>> ((2 : Int32).toUInt32 &&& Int32.toUInt32 31)).toInt32) &&& 858993459)) + (((((v0 - (((v0.toUInt32 >>> ((1 : Int32).toUInt32 &&& Int32.toUInt32 31)).toInt32) &&& 1431655765)) &&& 858993459) + ((((v0 - (((v0.toUInt32 >>> ((1 : Int32).toUInt32 &&& Int32.toUInt32 31)).toInt32) &&& 1431655765)).toUInt32 >>> ((2 : Int32).toUInt32 &&& Int32.toUInt32 31)).toInt32) &&& 858993459)).toUInt32 >>> ((4 : Int32).toUInt32 &&& Int32.toUInt32 31)).toInt32)) &&& 252645135) + (((((((v0 - (((v0.toUInt32 >>> ((1 : Int32).toUInt32 &&& Int32.toUInt32 31)).toInt32) &&& 1431655765)) &&& 858993459) + ((((v0 - (((v0.toUInt32 >>> ((1 : Int32).toUInt32 &&& Int32.toUInt32 31)).toInt32) &&& 1431655765)).toUInt32 >>> ((2 : Int32).toUInt32 &&& Int32.toUInt32 31)).toInt32) &&& 858993459)) + (((((v0 - (((v0.toUInt32 >>> ((1 : Int32).toUInt32 &&& Int32.toUInt32 31)).toInt32) &&& 1431655765)) &&& 858993459) + ((((v0 - (((v0.toUInt32 >>> ((1 : Int32).toUInt32 &&& Int32.toUInt32 31)).toInt32) &&& 1431655765)).toUInt32 >>> ((2 : Int32).toUInt32 &&& Int32.toUInt32 31)).toInt32) &&& 858993459)).toUInt32 >>> ((4 : Int32).toUInt32 &&& Int32.toUInt32 31)).toInt32)) &&& 252645135).toUInt32 >>> ((8 : Int32).toUInt32 &&& Int32.toUInt32 31)).toInt32)) + ((((((((v0 - (((v0.toUInt32 >>> ((1 : Int32).toUInt32 &&& Int32.toUInt32 31)).toInt32) &&& 1431655765)) &&& 858993459) + ((((v0 - (((v0.toUInt32 >>> ((1 : Int32).toUInt32 &&& Int32.toUInt32 31)).toInt32) &&& 1431655765)).toUInt32 >>> ((2 : Int32).toUInt32 &&& Int32.toUInt32 31)).toInt32) &&& 858993459)) + (((((v0 - (((v0.toUInt32 >>> ((1 : Int32).toUInt32 &&& Int32.toUInt32 31)).toInt32) &&& 1431655765)) &&& 858993459) + ((((v0 - (((v0.toUInt32 >>> ((1 : Int32).toUInt32 &&& Int32.toUInt32 31)).toInt32) &&& 1431655765)).toUInt32 >>> ((2 : Int32).toUInt32 &&& Int32.toUInt32 31)).toInt32) &&& 858993459)).toUInt32 >>> ((4 : Int32).toUInt32 &&& Int32.toUInt32 31)).toInt32)) &&& 252645135) + (((((((v0 - (((v0.toUInt32 >>> ((1 : Int32).toUInt32 &&& Int32.toUInt32 31)).toInt32) &&& 1431655765)) &&& 858993459) + ((((v0 - (((v0.toUInt32 >>> ((1 : Int32).toUInt32 &&& Int32.toUInt32 31)).toInt32) &&& 1431655765)).toUInt32 >>> ((2 : Int32).toUInt32 &&& Int32.toUInt32 31)).toInt32) &&& 858993459)) + (((((v0 - (((v0.toUInt32 >>> ((1 : Int32).toUInt32 &&& Int32.toUInt32 31)).toInt32) &&& 1431655765)) &&& 858993459) + ((((v0 - (((v0.toUInt32 >>> ((1 : Int32).toUInt32 &&& Int32.toUInt32 31)).toInt32) &&& 1431655765)).toUInt32 >>> ((2 : Int32).toUInt32 &&& Int32.toUInt32 31)).toInt32) &&& 858993459)).toUInt32 >>> ((4 : Int32).toUInt32 &&& Int32.toUInt32 31)).toInt32)) &&& 252645135).toUInt32 >>> ((8 : Int32).toUInt32 &&& Int32.toUInt32 31)).toInt32)).toUInt32 >>> ((16 : Int32).toUInt32 &&& Int32.toUInt32 31)).toInt32)) &&& 63)
def onesN (s : Nat) : Nat → Nat
  | 0 => 0
  | i + 1 => onesN s i + (s.testBit i).toNat
theorem onesN_s (s i : Nat) : onesN s (i + 1) = onesN s i + (s.testBit i).toNat := rfl
theorem onesN_le (s : Nat) : ∀ i, onesN s i ≤ i
  | 0 => Nat.le_refl 0
  | i + 1 => by
    have := onesN_le s i
    rw [onesN_s]
    cases s.testBit i <;> simp <;> omega
theorem bc_i : ∀ s, s < 64 → bcI (nI s) = nI (onesN s 6) := by decide +kernel
theorem s_105 {h : Hp} {s : Nat} (hs : s < 64) : S_105 (nI s) h = some (nI (onesN s 6), h) := by
  rw [← bc_i s hs]
  rfl
theorem s_245 {h : Hp} {s : Nat} (hs : s < 64) : S_245 (nI s) h = some (nI (onesN s 6), h) := by
  have loop : ∀ j i n : Nat, i + j = 6 → j < n → H_245_4 n (nI s) (nI (onesN s i)) (nI i) h = some (nI (onesN s 6), h) := by
    intro j
    induction j with
    | zero =>
      intro i n e hj
      obtain ⟨n, rfl⟩ : ∃ p, n = p + 1 := ⟨n - 1, by omega⟩
      have : i = 6 := by omega
      simp (disch := omega) only [H_245_4, R_245_24, R_245_10, R_245_4, R_245_0, S_245, gd_t, bI_, bV_, bR_, and_self, and_true, true_and, ↓reduceIte, eq_self, oj_84, bI_1, bI_0, L0, L1, L6, L31, le_t, le_f, lt_t, lt_f, eq_t, eq_f, ncl, nI_add, nmul, nsub, ndiv, nrem, nrem', nrN, this]
    | succ j ih =>
      intro i n e hj
      obtain ⟨n, rfl⟩ : ∃ p, n = p + 1 := ⟨n - 1, by omega⟩
      have := ih (i + 1) n (by omega) (by omega)
      rw [onesN_s] at this
      simp (disch := omega) only [H_245_4, R_245_24, R_245_10, R_245_4, R_245_0, S_245, gd_t, bI_, bV_, bR_, and_self, and_true, true_and, ↓reduceIte, eq_self, oj_84, bI_1, bI_0, L0, L1, L6, L31, le_t, le_f, lt_t, lt_f, eq_t, eq_f, ncl, nI_add, nmul, nsub, ndiv, nrem, nrem', nrN, nset']
      exact this
  simp (disch := omega) only [R_245_24, R_245_10, R_245_4, R_245_0, S_245, gd_t, bI_, bV_, bR_, and_self, and_true, true_and, ↓reduceIte, eq_self, oj_84, bI_1, bI_0, L0, L1, L6, L31, le_t, le_f, lt_t, lt_f, eq_t, eq_f, ncl, nI_add, nmul, nsub, ndiv, nrem, nrem', nrN]
  exact loop 6 0 fuL (by omega) (fuL_gt (by omega))
theorem p_many {v : Int32} : Pub (S_170 v) (S_292 v) := by
  intro h I
  obtain ⟨⟨s, m, C⟩, ⟨n, K, A, L, M, r1, r2, r3, r4⟩, d2, ⟨tn, T, t1, t2, t3, t4⟩, ⟨rn, o1, o2, o3, o4⟩, d5, d6, ⟨an, x1, x2, x3, x4⟩⟩ := id I
  obtain ⟨so, mo, hs, hm, q, h4⟩ := id C
  have hset := mo.set so
  cases hr : rng 0 6 v with
  | false => exact ⟨-nI 1, h, h, by simp (disch := omega) only [R_170_44, R_170_52, R_170_73, R_170_63, R_170_74, R_170_82, R_170_87, R_170_95, R_170_103, R_170_0, S_170, gd_t, bI_, bV_, bR_, and_self, and_true, true_and, ↓reduceIte, eq_self, oj_84, bI_1, bI_0, L0, L1, L2, L3, L4, L5, L6, L7, L8, L13, L16, L21, L27, L35, L61, L84, L85, rng_ne hr], by simp (disch := omega) only [R_292_44, R_292_51, R_292_65, R_292_62, R_292_58, R_292_66, R_292_74, R_292_79, R_292_84, R_292_89, R_292_0, S_292, gd_t, bI_, bV_, bR_, and_self, and_true, true_and, ↓reduceIte, eq_self, oj_84, bI_1, bI_0, L0, L1, L2, L3, L4, L5, L6, L7, L8, L13, L16, L21, L27, L35, L61, L84, L85, rng_ne hr], I⟩
  | true =>
    obtain ⟨x, -, hx, rfl⟩ := rng_t hr
    rcases (show x = 0 ∨ x = 1 ∨ x = 2 ∨ x = 3 ∨ x = 4 ∨ x = 5 ∨ x = 6 by omega) with rfl | rfl | rfl | rfl | rfl | rfl | rfl
    · exact ⟨nI (sN s), h, h, by simp (disch := omega) only [R_170_44, R_170_52, R_170_73, R_170_63, R_170_74, R_170_82, R_170_87, R_170_95, R_170_103, R_170_0, S_170, gd_t, bI_, bV_, bR_, and_self, and_true, true_and, ↓reduceIte, eq_self, oj_84, bI_1, bI_0, L0, L1, L2, L3, L4, L5, L6, L7, L8, L13, L16, L21, L27, L35, L61, L84, L85, le_t, le_f, lt_t, lt_f, eq_t, eq_f, ncl, nI_add, nmul, nsub, ndiv, nrem, nrem', nrN, hs.1.n], by simp (disch := omega) only [R_292_44, R_292_51, R_292_65, R_292_62, R_292_58, R_292_66, R_292_74, R_292_79, R_292_84, R_292_89, R_292_0, S_292, gd_t, bI_, bV_, bR_, and_self, and_true, true_and, ↓reduceIte, eq_self, oj_84, bI_1, bI_0, L0, L1, L2, L3, L4, L5, L6, L7, L8, L13, L16, L21, L27, L35, L61, L84, L85, le_t, le_f, lt_t, lt_f, eq_t, eq_f, ncl, nI_add, nmul, nsub, ndiv, nrem, nrem', nrN, ia_85, q.1.n], I⟩
    · exact ⟨nI (sRules s).length, h, h, by simp (disch := omega) only [R_170_44, R_170_52, R_170_73, R_170_63, R_170_74, R_170_82, R_170_87, R_170_95, R_170_103, R_170_0, S_170, gd_t, bI_, bV_, bR_, and_self, and_true, true_and, ↓reduceIte, eq_self, oj_84, bI_1, bI_0, L0, L1, L2, L3, L4, L5, L6, L7, L8, L13, L16, L21, L27, L35, L61, L84, L85, le_t, le_f, lt_t, lt_f, eq_t, eq_f, ncl, nI_add, nmul, nsub, ndiv, nrem, nrem', nrN, hs.2.1], by simp (disch := omega) only [R_292_44, R_292_51, R_292_65, R_292_62, R_292_58, R_292_66, R_292_74, R_292_79, R_292_84, R_292_89, R_292_0, S_292, gd_t, bI_, bV_, bR_, and_self, and_true, true_and, ↓reduceIte, eq_self, oj_84, bI_1, bI_0, L0, L1, L2, L3, L4, L5, L6, L7, L8, L13, L16, L21, L27, L35, L61, L84, L85, le_t, le_f, lt_t, lt_f, eq_t, eq_f, ncl, nI_add, nmul, nsub, ndiv, nrem, nrem', nrN, ia_85, q.2.1], I⟩
    · exact ⟨nI (onesN (mSet m) 6), h, h, by simp (disch := omega) only [R_170_44, R_170_52, R_170_73, R_170_63, R_170_74, R_170_82, R_170_87, R_170_95, R_170_103, R_170_0, S_170, gd_t, bI_, bV_, bR_, and_self, and_true, true_and, ↓reduceIte, eq_self, oj_84, bI_1, bI_0, L0, L1, L2, L3, L4, L5, L6, L7, L8, L13, L16, L21, L27, L35, L61, L84, L85, le_t, le_f, lt_t, lt_f, eq_t, eq_f, ncl, nI_add, nmul, nsub, ndiv, nrem, nrem', nrN, hm.set, s_105], by simp (disch := omega) only [R_292_44, R_292_51, R_292_65, R_292_62, R_292_58, R_292_66, R_292_74, R_292_79, R_292_84, R_292_89, R_292_0, S_292, gd_t, bI_, bV_, bR_, and_self, and_true, true_and, ↓reduceIte, eq_self, oj_84, bI_1, bI_0, L0, L1, L2, L3, L4, L5, L6, L7, L8, L13, L16, L21, L27, L35, L61, L84, L85, le_t, le_f, lt_t, lt_f, eq_t, eq_f, ncl, nI_add, nmul, nsub, ndiv, nrem, nrem', nrN, s_206 so mo q.1, s_245], I⟩
    · exact ⟨nI n, h, h, by simp (disch := omega) only [R_170_44, R_170_52, R_170_73, R_170_63, R_170_74, R_170_82, R_170_87, R_170_95, R_170_103, R_170_0, S_170, gd_t, bI_, bV_, bR_, and_self, and_true, true_and, ↓reduceIte, eq_self, oj_84, bI_1, bI_0, L0, L1, L2, L3, L4, L5, L6, L7, L8, L13, L16, L21, L27, L35, L61, L84, L85, le_t, le_f, lt_t, lt_f, eq_t, eq_f, ncl, nI_add, nmul, nsub, ndiv, nrem, nrem', nrN, r2], by simp (disch := omega) only [R_292_44, R_292_51, R_292_65, R_292_62, R_292_58, R_292_66, R_292_74, R_292_79, R_292_84, R_292_89, R_292_0, S_292, gd_t, bI_, bV_, bR_, and_self, and_true, true_and, ↓reduceIte, eq_self, oj_84, bI_1, bI_0, L0, L1, L2, L3, L4, L5, L6, L7, L8, L13, L16, L21, L27, L35, L61, L84, L85, le_t, le_f, lt_t, lt_f, eq_t, eq_f, ncl, nI_add, nmul, nsub, ndiv, nrem, nrem', nrN, ia_85, r3], I⟩
    · exact ⟨nI rn, h, h, by simp (disch := omega) only [R_170_44, R_170_52, R_170_73, R_170_63, R_170_74, R_170_82, R_170_87, R_170_95, R_170_103, R_170_0, S_170, gd_t, bI_, bV_, bR_, and_self, and_true, true_and, ↓reduceIte, eq_self, oj_84, bI_1, bI_0, L0, L1, L2, L3, L4, L5, L6, L7, L8, L13, L16, L21, L27, L35, L61, L84, L85, le_t, le_f, lt_t, lt_f, eq_t, eq_f, ncl, nI_add, nmul, nsub, ndiv, nrem, nrem', nrN, o2], by simp (disch := omega) only [R_292_44, R_292_51, R_292_65, R_292_62, R_292_58, R_292_66, R_292_74, R_292_79, R_292_84, R_292_89, R_292_0, S_292, gd_t, bI_, bV_, bR_, and_self, and_true, true_and, ↓reduceIte, eq_self, oj_84, bI_1, bI_0, L0, L1, L2, L3, L4, L5, L6, L7, L8, L13, L16, L21, L27, L35, L61, L84, L85, le_t, le_f, lt_t, lt_f, eq_t, eq_f, ncl, nI_add, nmul, nsub, ndiv, nrem, nrem', nrN, o3], I⟩
    · exact ⟨nI tn, h, h, by simp (disch := omega) only [R_170_44, R_170_52, R_170_73, R_170_63, R_170_74, R_170_82, R_170_87, R_170_95, R_170_103, R_170_0, S_170, gd_t, bI_, bV_, bR_, and_self, and_true, true_and, ↓reduceIte, eq_self, oj_84, bI_1, bI_0, L0, L1, L2, L3, L4, L5, L6, L7, L8, L13, L16, L21, L27, L35, L61, L84, L85, le_t, le_f, lt_t, lt_f, eq_t, eq_f, ncl, nI_add, nmul, nsub, ndiv, nrem, nrem', nrN, t2], by simp (disch := omega) only [R_292_44, R_292_51, R_292_65, R_292_62, R_292_58, R_292_66, R_292_74, R_292_79, R_292_84, R_292_89, R_292_0, S_292, gd_t, bI_, bV_, bR_, and_self, and_true, true_and, ↓reduceIte, eq_self, oj_84, bI_1, bI_0, L0, L1, L2, L3, L4, L5, L6, L7, L8, L13, L16, L21, L27, L35, L61, L84, L85, le_t, le_f, lt_t, lt_f, eq_t, eq_f, ncl, nI_add, nmul, nsub, ndiv, nrem, nrem', nrN, t3], I⟩
    · exact ⟨nI an, h, h, by simp (disch := omega) only [R_170_44, R_170_52, R_170_73, R_170_63, R_170_74, R_170_82, R_170_87, R_170_95, R_170_103, R_170_0, S_170, gd_t, bI_, bV_, bR_, and_self, and_true, true_and, ↓reduceIte, eq_self, oj_84, bI_1, bI_0, L0, L1, L2, L3, L4, L5, L6, L7, L8, L13, L16, L21, L27, L35, L61, L84, L85, le_t, le_f, lt_t, lt_f, eq_t, eq_f, ncl, nI_add, nmul, nsub, ndiv, nrem, nrem', nrN, x2], by simp (disch := omega) only [R_292_44, R_292_51, R_292_65, R_292_62, R_292_58, R_292_66, R_292_74, R_292_79, R_292_84, R_292_89, R_292_0, S_292, gd_t, bI_, bV_, bR_, and_self, and_true, true_and, ↓reduceIte, eq_self, oj_84, bI_1, bI_0, L0, L1, L2, L3, L4, L5, L6, L7, L8, L13, L16, L21, L27, L35, L61, L84, L85, le_t, le_f, lt_t, lt_f, eq_t, eq_f, ncl, nI_add, nmul, nsub, ndiv, nrem, nrem', nrN, x3], I⟩
def RuId (a : Nat) : Prop := sh a = (1, 5) ∧ sh (a + 1) = (0, 8) ∧ sh (a + 2) = (0, 8) ∧ sh (a + 3) = (0, 8) ∧ sh (a + 4) = (0, 200)
theorem s_78 {h : Hp} {a b : Nat} (ha : RuId a) (hb : RuId b) (hab : a + 5 ≤ b ∨ b + 5 ≤ a) : ∃ h', S_78 a b h = some (0, h') ∧ Same [a, a + 1, a + 2, a + 3, a + 4] h h' ∧ h' a 4 = h b 4 ∧ h' a 5 = h b 5 ∧ (∀ j, j < 8 → h' (a + 1) j = h (b + 1) j ∧ h' (a + 2) j = h (b + 2) j ∧ h' (a + 3) j = h (b + 3) j) ∧ ∀ j, j < 200 → h' (a + 4) j = h (b + 4) j := by
  obtain ⟨a0, a1, a2, a3, a4⟩ := ha
  obtain ⟨b0, b1, b2, b3, b4⟩ := hb
  have z0 : (nI 0).toNatClampNeg = 0 := rfl
  have z8 : (nI 8).toNatClampNeg = 8 := rfl
  have z200 : (nI 200).toNatClampNeg = 200 := rfl
  refine ⟨wr (wr (wrA (wrA (wrA (wrA h (a + 1) (va_cpy (h (b + 1)) (h (a + 1)) 0 0 8)) (a + 2) (va_cpy (h (b + 2)) (h (a + 2)) 0 0 8)) (a + 3) (va_cpy (h (b + 3)) (h (a + 3)) 0 0 8)) (a + 4) (va_cpy (h (b + 4)) (h (a + 4)) 0 0 200)) a 4 (h b 4)) a 5 (h b 5), ?_, ?_, ?_, ?_, fun j hj => ⟨?_, ?_, ?_⟩, fun j hj => ?_⟩
  · simp (disch := omega) only [R_78_0, S_78, gd_t, bI_, bV_, bR_, and_self, and_true, true_and, ↓reduceIte, eq_self, oj_84, bI_1, bI_0, L0, L1, L2, L3, L4, L5, L8, L200, a0, a1, a2, a3, a4, b0, b1, b2, b3, b4, z0, z8, z200, wr_c, wrA_c]
  · intro c hc
    simp only [List.mem_cons, List.not_mem_nil, or_false, not_or] at hc
    simp (disch := omega) only [wr_c, wrA_c]
  · simp (disch := omega) only [wr_k, wr_s]
  · simp (disch := omega) only [wr_s]
  · simp (disch := omega) only [wr_c, wrA_c, wrA_self, pk_cpy_in, Nat.zero_add, Nat.sub_zero]
  · simp (disch := omega) only [wr_c, wrA_c, wrA_self, pk_cpy_in, Nat.zero_add, Nat.sub_zero]
  · simp (disch := omega) only [wr_c, wrA_c, wrA_self, pk_cpy_in, Nat.zero_add, Nat.sub_zero]
  · simp (disch := omega) only [wr_c, wrA_c, wrA_self, pk_cpy_in, Nat.zero_add, Nat.sub_zero]
def StId (a : Nat) : Prop := sh a = (1, 6) ∧ sh (a + 1) = (0, 6) ∧ sh (a + 2) = (0, 6) ∧ sh (a + 3) = (0, 16) ∧ sh (a + 4) = (0, 6) ∧ sh (a + 5) = (0, 6) ∧ RuId (a + 6)
theorem s_172 {h : Hp} {a b : Nat} (ha : StId a) (hb : StId b) (hab : a + 12 ≤ b ∨ b + 12 ≤ a) : ∃ h', S_172 a b h = some (0, h') ∧ (∀ c, (c < a ∨ a + 11 ≤ c) → h' c = h c) ∧ (∀ s, SgAtB h b s → sN s ≤ 6 → SgAtB h' a s) ∧ ∀ rl, RulesAt h (b + 6) rl → RulesAt h' (a + 6) rl := by
  obtain ⟨a0, a1, a2, a3, a4, a5, a6⟩ := ha
  obtain ⟨b0, b1, b2, b3, b4, b5, b6⟩ := hb
  have z0 : (nI 0).toNatClampNeg = 0 := rfl
  have z6 : (nI 6).toNatClampNeg = 6 := rfl
  have z16 : (nI 16).toNatClampNeg = 16 := rfl
  have a60 := a6.1
  obtain ⟨H, eH⟩ : ∃ H, H = wrA (wrA (wrA (wrA (wrA h (a + 1) (va_cpy (h (b + 1)) (h (a + 1)) 0 0 6)) (a + 2) (va_cpy (h (b + 2)) (h (a + 2)) 0 0 6)) (a + 3) (va_cpy (h (b + 3)) (h (a + 3)) 0 0 16)) (a + 4) (va_cpy (h (b + 4)) (h (a + 4)) 0 0 6)) (a + 5) (va_cpy (h (b + 5)) (h (a + 5)) 0 0 6) := ⟨_, rfl⟩
  obtain ⟨H2, g, sH, k4, k5, k8, k200⟩ := s_78 (h := H) a6 b6 (by omega)
  have cH : ∀ c, (c < a + 1 ∨ a + 6 ≤ c) → H c = h c := fun c hc => by rw [eH]; simp (disch := omega) only [wrA_c]
  have cH2 : ∀ c, (c < a + 6 ∨ a + 11 ≤ c) → H2 c = H c := fun c hc => sH c (by simp only [List.mem_cons, List.not_mem_nil, or_false, not_or]; omega)
  refine ⟨wr (wr H2 a 7 (h b 7)) a 8 (h b 8), ?_, fun c hc => ?_, fun s q hn => ?_, fun rl q => ?_⟩
  · have e1 : H2 b = h b := by rw [cH2 b (by omega), cH b (by omega)]
    rw [eH] at g
    simp (disch := omega) only [R_172_86, R_172_0, S_172, gd_t, bI_, bV_, bR_, and_self, and_true, true_and, ↓reduceIte, eq_self, oj_84, bI_1, bI_0, L0, L1, L2, L3, L4, L5, L6, L7, L8, L16, a0, a1, a2, a3, a4, a5, a60, b0, b1, b2, b3, b4, b5, z0, z6, z16, wrA_c, g, wr_c, e1]
  · simp (disch := omega) only [wr_c]
    rw [cH2 c (by omega), cH c (by omega)]
  · obtain ⟨q1, q2, q3, q4, q5⟩ := q
    have r1 : ∀ j, j < 6 → H2 (a + 1) j = h (b + 1) j := fun j hj => by rw [cH2 _ (by omega), eH]; simp (disch := omega) only [wrA_c, wrA_self, pk_cpy_in, Nat.zero_add, Nat.sub_zero]
    have r2 : ∀ j, j < 6 → H2 (a + 2) j = h (b + 2) j := fun j hj => by rw [cH2 _ (by omega), eH]; simp (disch := omega) only [wrA_c, wrA_self, pk_cpy_in, Nat.zero_add, Nat.sub_zero]
    have r3 : ∀ j, j < 16 → H2 (a + 3) j = h (b + 3) j := fun j hj => by rw [cH2 _ (by omega), eH]; simp (disch := omega) only [wrA_c, wrA_self, pk_cpy_in, Nat.zero_add, Nat.sub_zero]
    have r4 : ∀ j, j < 6 → H2 (a + 4) j = h (b + 4) j := fun j hj => by rw [cH2 _ (by omega), eH]; simp (disch := omega) only [wrA_c, wrA_self, pk_cpy_in, Nat.zero_add, Nat.sub_zero]
    have r5 : ∀ j, j < 6 → H2 (a + 5) j = h (b + 5) j := fun j hj => by rw [cH2 _ (by omega), eH]; simp (disch := omega) only [wrA_c, wrA_self, pk_cpy_in, Nat.zero_add, Nat.sub_zero]
    refine ⟨by simp (disch := omega) only [wr_k, wr_s]; exact q1, fun k hk => ?_, fun t ht => ?_, fun f hf => ?_, by simp (disch := omega) only [wr_s]; exact q5⟩
    · simp (disch := omega) only [wr_c]
      rw [r1 k (by omega), r2 k (by omega)]
      exact q2 k hk
    · simp (disch := omega) only [wr_c]
      rw [r3 t ht]
      exact q3 t ht
    · simp (disch := omega) only [wr_c]
      rw [r4 f hf, r5 f hf]
      exact q4 f hf
  · have e0 : ∀ i, i ≤ 4 → H (b + 6 + i) = h (b + 6 + i) := fun i hi => cH _ (by omega)
    have e00 : H (b + 6) = h (b + 6) := cH _ (by omega)
    rw [e00] at k4 k5
    rw [e0 1 (by decide), e0 2 (by decide), e0 3 (by decide)] at k8
    rw [e0 4 (by decide)] at k200
    obtain ⟨u1, u2, bb, Ls, u3, u4⟩ := q
    have w : ∀ i, i ≤ 4 → (wr (wr H2 a 7 (h b 7)) a 8 (h b 8)) (a + 6 + i) = H2 (a + 6 + i) := fun i hi => by simp (disch := omega) only [wr_c]
    have w0 : (wr (wr H2 a 7 (h b 7)) a 8 (h b 8)) (a + 6) = H2 (a + 6) := by simp (disch := omega) only [wr_c]
    unfold RulesAt
    rw [w0, w 1 (by decide), w 2 (by decide), w 3 (by decide), w 4 (by decide)]
    refine ⟨by rw [k5]; exact u1, u2, bb, Ls, u3, fun i p hp => ?_⟩
    have hi : i < 8 := Nat.lt_of_lt_of_le (List.getElem?_eq_some_iff.mp hp).1 u2
    obtain ⟨v1, v2, v3, v4, v5, v6, v7, v8, v9⟩ := u4 i p hp
    obtain ⟨c1, c2, c3⟩ := k8 i hi
    refine ⟨by rw [c1]; exact v1, v2, by rw [c2]; exact v3, v4, v5, v6, by rw [c3]; exact v7, fun j v hv => ?_, v9⟩
    have hj : j < (Ls i).length := (List.getElem?_eq_some_iff.mp hv).1
    rw [k200 _ (by omega)]
    exact v8 j v hv
def SrId (a : Nat) : Prop := sh a = (1, 7) ∧ sh (a + 1) = (0, 6) ∧ sh (a + 2) = (0, 6) ∧ sh (a + 3) = (0, 6) ∧ sh (a + 4) = (0, 6)
theorem s_173 {h : Hp} {a b : Nat} (ha : SrId a) (hb : SrId b) (hab : a + 5 ≤ b ∨ b + 5 ≤ a) : ∃ h', S_173 a b h = some (0, h') ∧ Same [a, a + 1, a + 2, a + 3, a + 4] h h' ∧ h' a 4 = h b 4 ∧ ∀ j, j < 6 → h' (a + 1) j = h (b + 1) j ∧ h' (a + 2) j = h (b + 2) j ∧ h' (a + 3) j = h (b + 3) j ∧ h' (a + 4) j = h (b + 4) j := by
  obtain ⟨a0, a1, a2, a3, a4⟩ := ha
  obtain ⟨b0, b1, b2, b3, b4⟩ := hb
  have z0 : (nI 0).toNatClampNeg = 0 := rfl
  have z6 : (nI 6).toNatClampNeg = 6 := rfl
  refine ⟨wr (wrA (wrA (wrA (wrA h (a + 1) (va_cpy (h (b + 1)) (h (a + 1)) 0 0 6)) (a + 2) (va_cpy (h (b + 2)) (h (a + 2)) 0 0 6)) (a + 3) (va_cpy (h (b + 3)) (h (a + 3)) 0 0 6)) (a + 4) (va_cpy (h (b + 4)) (h (a + 4)) 0 0 6)) a 4 (h b 4), ?_, ?_, ?_, fun j hj => ⟨?_, ?_, ?_, ?_⟩⟩
  · simp (disch := omega) only [R_173_0, S_173, gd_t, bI_, bV_, bR_, and_self, and_true, true_and, ↓reduceIte, eq_self, oj_84, bI_1, bI_0, L0, L1, L2, L3, L4, L6, L7, a0, a1, a2, a3, a4, b0, b1, b2, b3, b4, z0, z6, wr_c, wrA_c]
  · intro c hc
    simp only [List.mem_cons, List.not_mem_nil, or_false, not_or] at hc
    simp (disch := omega) only [wr_c, wrA_c]
  · simp (disch := omega) only [wr_s]
  · simp (disch := omega) only [wr_c, wrA_c, wrA_self, pk_cpy_in, Nat.zero_add, Nat.sub_zero]
  · simp (disch := omega) only [wr_c, wrA_c, wrA_self, pk_cpy_in, Nat.zero_add, Nat.sub_zero]
  · simp (disch := omega) only [wr_c, wrA_c, wrA_self, pk_cpy_in, Nat.zero_add, Nat.sub_zero]
  · simp (disch := omega) only [wr_c, wrA_c, wrA_self, pk_cpy_in, Nat.zero_add, Nat.sub_zero]
theorem RulesM.congr' {f f' : Nat → Int32} {rl : Rl} (a : RulesM f rl) (e : ∀ j, j < 361 → f' j = f j) : RulesM f' rl := by
  obtain ⟨h5, h8, b, Ls, hr⟩ := a
  refine ⟨by rw [e 5 (by decide)]; exact h5, h8, b, Ls, fun i q hq => ?_⟩
  obtain ⟨r1, r2, r3, r4, r5, r6, r7, r8, r9⟩ := hr i q hq
  have hi : i < 8 := Nat.lt_of_lt_of_le (List.getElem?_eq_some_iff.mp hq).1 h8
  refine ⟨by rw [e _ (by omega)]; exact r1, r2, by rw [e _ (by omega)]; exact r3, r4, by rw [e _ (by omega)]; exact r5, by rw [e _ (by omega)]; exact r6, r7, fun j v hv => ?_, r9⟩
  have hj : j < (Ls i).length := (List.getElem?_eq_some_iff.mp hv).1
  rw [e _ (by omega)]
  exact r8 j v hv
theorem RepI.c' {h h' : Hp} {b b' : Nat} {σ σ' : Nat → Int32} (q : RepI h b σ) (a : h' b' 4 = h b 4) (c : ∀ j, j < 6 → h' (b' + 1) j = h (b + 1) j ∧ h' (b' + 2) j = h (b + 2) j ∧ h' (b' + 3) j = h (b + 3) j ∧ h' (b' + 4) j = h (b + 4) j) (d : ∀ j, j < 361 → σ' j = σ j) : RepI h' b' σ' := by
  obtain ⟨n, K, A, L, M, r1, r2, r3, r4⟩ := q
  refine ⟨n, K, A, L, M, r1, by rw [a]; exact r2, by rw [d 6 (by omega)]; exact r3, fun r hr => ?_⟩
  obtain ⟨u1, u2, u3, u4, u5⟩ := r4 r hr
  obtain ⟨c1, c2, c3, c4⟩ := c r (by omega)
  refine ⟨u1, u2, u3, u4, ?_⟩
  rw [c1, c2, c3, c4, d _ (by omega), d _ (by omega), d _ (by omega), d _ (by omega)]
  exact u5
theorem st1 : StId 1 := ⟨rfl, rfl, rfl, rfl, rfl, rfl, rfl, rfl, rfl, rfl, rfl⟩
theorem st64 : StId 64 := ⟨rfl, rfl, rfl, rfl, rfl, rfl, rfl, rfl, rfl, rfl, rfl⟩
theorem sr16 : SrId 16 := ⟨rfl, rfl, rfl, rfl, rfl⟩
theorem sr79 : SrId 79 := ⟨rfl, rfl, rfl, rfl, rfl⟩
theorem m_293 {h : Hp} : ∃ h', S_293 h = some (nI 1, wr h' 84 2 (nI 1)) ∧ Same [86] h h' ∧ ∀ j, j < 361 → h' 86 j = h 85 j := by
  have loop : ∀ j i n : Nat, i + j = 361 → j < n → ∀ H, Same [86] h H → (∀ t, t < i → H 86 t = h 85 t) → ∃ h', H_293_2 n (nI i) H = some (nI 1, wr h' 84 2 (nI 1)) ∧ Same [86] h h' ∧ ∀ t, t < 361 → h' 86 t = h 85 t := by
    intro j
    induction j with
    | zero =>
      intro i n e hj H sH hz
      obtain ⟨n, rfl⟩ : ∃ p, n = p + 1 := ⟨n - 1, by omega⟩
      have ei : i = 361 := by omega
      refine ⟨H, ?_, sH, fun t ht => hz t (by omega)⟩
      simp (disch := omega) only [H_293_2, R_293_27, R_293_9, R_293_2, R_293_0, S_293, gd_t, bI_, bV_, bR_, and_self, and_true, true_and, ↓reduceIte, eq_self, oj_84, bI_1, bI_0, L0, L1, L2, L84, L85, L86, L361, le_t, le_f, lt_t, lt_f, eq_t, eq_f, ncl, nI_add, nmul, nsub, ndiv, nrem, nrem', nrN, ei]
    | succ j ih =>
      intro i n e hj H sH hz
      obtain ⟨n, rfl⟩ : ∃ p, n = p + 1 := ⟨n - 1, by omega⟩
      have e85 : H 85 = h 85 := sH 85 (by decide)
      have nx := ih (i + 1) n (by omega) (by omega) (wr H 86 i (h 85 i)) (sH.wr (by simp)) (fun t ht => by
        by_cases et : t = i
        · rw [et, wr_self]
        · rw [wr_k et]; exact hz t (by omega))
      simp (disch := omega) only [H_293_2, R_293_27, R_293_9, R_293_2, R_293_0, S_293, gd_t, bI_, bV_, bR_, and_self, and_true, true_and, ↓reduceIte, eq_self, oj_84, bI_1, bI_0, L0, L1, L2, L84, L85, L86, L361, le_t, le_f, lt_t, lt_f, eq_t, eq_f, ncl, nI_add, nmul, nsub, ndiv, nrem, nrem', nrN, ia_85, ia_86, e85]
      exact nx
  obtain ⟨h', g, a, b⟩ := loop 361 0 fuL (by omega) (fuL_gt (by omega)) h Same.rf (fun t ht => by omega)
  refine ⟨h', ?_, a, b⟩
  simp (disch := omega) only [R_293_27, R_293_9, R_293_2, R_293_0, S_293, gd_t, bI_, bV_, bR_, and_self, and_true, true_and, ↓reduceIte, eq_self, oj_84, bI_1, bI_0, L0, L1, L2, L84, L85, L86, L361]
  exact g
theorem m_294 {h : Hp} {n0 : Nat} (hf : h 84 2 = nI 1) (h0 : h 86 0 = nI n0) : ∃ h', S_294 h = some (nI n0, h') ∧ Same [85] h h' ∧ ∀ j, j < 361 → h' 85 j = h 86 j := by
  have loop : ∀ j i n : Nat, i + j = 361 → j < n → ∀ H, Same [85] h H → (∀ t, t < i → H 85 t = h 86 t) → ∃ h', H_294_12 n (nI i) H = some (nI n0, h') ∧ Same [85] h h' ∧ ∀ t, t < 361 → h' 85 t = h 86 t := by
    intro j
    induction j with
    | zero =>
      intro i n e hj H sH hz
      obtain ⟨n, rfl⟩ : ∃ p, n = p + 1 := ⟨n - 1, by omega⟩
      have ei : i = 361 := by omega
      have e0 : H 85 0 = nI n0 := by rw [hz 0 (by omega), h0]
      refine ⟨H, ?_, sH, fun t ht => hz t (by omega)⟩
      simp (disch := omega) only [H_294_12, R_294_37, R_294_19, R_294_12, R_294_10, R_294_7, R_294_0, S_294, gd_t, bI_, bV_, bR_, and_self, and_true, true_and, ↓reduceIte, eq_self, oj_84, bI_1, bI_0, L0, L1, L2, L3, L84, L85, L86, L361, le_t, le_f, lt_t, lt_f, eq_t, eq_f, ncl, nI_add, nmul, nsub, ndiv, nrem, nrem', nrN, ei, ia_85, e0]
    | succ j ih =>
      intro i n e hj H sH hz
      obtain ⟨n, rfl⟩ : ∃ p, n = p + 1 := ⟨n - 1, by omega⟩
      have e86 : H 86 = h 86 := sH 86 (by decide)
      have nx := ih (i + 1) n (by omega) (by omega) (wr H 85 i (h 86 i)) (sH.wr (by simp)) (fun t ht => by
        by_cases et : t = i
        · rw [et, wr_self]
        · rw [wr_k et]; exact hz t (by omega))
      simp (disch := omega) only [H_294_12, R_294_37, R_294_19, R_294_12, R_294_10, R_294_7, R_294_0, S_294, gd_t, bI_, bV_, bR_, and_self, and_true, true_and, ↓reduceIte, eq_self, oj_84, bI_1, bI_0, L0, L1, L2, L3, L84, L85, L86, L361, le_t, le_f, lt_t, lt_f, eq_t, eq_f, ncl, nI_add, nmul, nsub, ndiv, nrem, nrem', nrN, ia_85, ia_86, e86]
      exact nx
  obtain ⟨h', g, a, b⟩ := loop 361 0 fuL (by omega) (fuL_gt (by omega)) h Same.rf (fun t ht => by omega)
  refine ⟨h', ?_, a, b⟩
  simp (disch := omega) only [R_294_37, R_294_19, R_294_12, R_294_10, R_294_7, R_294_0, S_294, gd_t, bI_, bV_, bR_, and_self, and_true, true_and, ↓reduceIte, eq_self, oj_84, bI_1, bI_0, L0, L1, L2, L3, L84, L85, L86, L361, hf, eq_f]
  exact g
theorem p_keep : Pub S_171 S_293 := by
  intro h I
  obtain ⟨⟨s, m, C⟩, d1, ⟨b0, k1, k2, -⟩, d3, d4, d5, d6, d7⟩ := id I
  obtain ⟨so, mo, hs, hm, q, h4⟩ := id C
  obtain ⟨h1, g1, f1, s1, r1⟩ := s_172 (h := h) st64 st1 (by decide)
  have hm1 : MoAt h1 13 s m := hm.congr (f1 _ (by decide)) (f1 _ (by decide)) (f1 _ (by decide))
  obtain ⟨h2, g2, f2, hm2⟩ := s_88 mo76 mo13 (by decide) so hm1
  obtain ⟨h3, g3, f3, k4, kj⟩ := s_173 (h := h2) sr79 sr16 (by decide)
  obtain ⟨h4', g4, f4, k5⟩ := m_293 (h := wr h3 0 12 (nI 1))
  have c3 : ∀ c, (c < 64 ∨ 84 ≤ c) → h3 c = h c := fun c hc => by
    rw [f3 c (by simp only [List.mem_cons, List.not_mem_nil, or_false, not_or]; omega), f2 c (by simp only [List.mem_cons, List.not_mem_nil, or_false, not_or]; omega), f1 c (by omega)]
  have c4 : ∀ c, (1 ≤ c ∧ c < 64 ∨ 85 ≤ c ∧ c ≠ 86) → (wr h4' 84 2 (nI 1)) c = h c := fun c hc => by
    rw [wr_c (by omega), f4 c (by simp; omega), wr_c (by omega), c3 c (by omega)]
  have c84 : ∀ j, j ≠ 2 → (wr h4' 84 2 (nI 1)) 84 j = h 84 j := fun j hj => by rw [wr_k hj, f4 84 (by decide), wr_c (by decide), c3 84 (by decide)]
  have c0 : ∀ j, j ≠ 12 → (wr h4' 84 2 (nI 1)) 0 j = h 0 j := fun j hj => by rw [wr_c (by decide), f4 0 (by decide), wr_k hj, c3 0 (by decide)]
  have c64 : ∀ c, 64 ≤ c → c < 84 → (wr h4' 84 2 (nI 1)) c = h3 c := fun c a b => by rw [wr_c (by omega), f4 c (by simp; omega), wr_c (by omega)]
  have c86 : ∀ j, j < 361 → (wr h4' 84 2 (nI 1)) 86 j = h 85 j := fun j hj => by rw [wr_c (by decide), k5 j hj, wr_c (by decide), c3 85 (by decide)]
  refine ⟨nI 1, wr h3 0 12 (nI 1), wr h4' 84 2 (nI 1), by simp (disch := omega) only [R_171_33, R_171_22, R_171_11, R_171_0, S_171, gd_t, bI_, bV_, bR_, and_self, and_true, true_and, ↓reduceIte, eq_self, oj_84, bI_1, bI_0, L0, L1, L12, L13, L16, L64, L76, L79, g1, g2, g3], g4, ⟨s, m, C.c (fun c _ _ _ => c4 c (by omega)) (c84 4 (by decide)) (fun j _ _ => by rw [c4 85 (by decide)])⟩, d1.c (by rw [c4 16 (by decide)]) (fun i _ _ => c4 _ (by omega)) (fun j _ => by rw [c4 85 (by decide)]), ⟨true, ?_, by rw [wr_self]; rfl, fun _ => ⟨s, m, so, mo, ?_, ?_, ?_, ?_, ?_, ?_⟩⟩, d3.c (by rw [c4 21 (by decide)]) (c84 7 (by decide)) (c4 22 (by decide)) (c4 89 (by decide)), d4.c (c0 8 (by decide)) (c84 27 (by decide)) (c4 63 (by decide)) (c4 93 (by decide)), d5.c (fun i hi => c4 i (by omega)), d6.c (fun i hi => c4 i (by omega)), d7.c (by rw [c4 61 (by decide)]) (c84 35 (by decide)) (c4 62 (by decide)) (c4 100 (by decide))⟩
  · rw [wr_c (by decide), f4 0 (by decide), wr_self]
    rfl
  · have e := s1 s hs.1 so.1
    have w : ∀ c, 64 ≤ c → c < 76 → (wr h4' 84 2 (nI 1)) c = h1 c := fun c a b => by rw [c64 c a (by omega), f3 c (by simp only [List.mem_cons, List.not_mem_nil, or_false, not_or]; omega), f2 c (by simp only [List.mem_cons, List.not_mem_nil, or_false, not_or]; omega)]
    unfold SgAtB at e ⊢
    rw [w 64 (by decide) (by decide), w (64 + 1) (by decide) (by decide), w (64 + 2) (by decide) (by decide), w (64 + 3) (by decide) (by decide), w (64 + 4) (by decide) (by decide), w (64 + 5) (by decide) (by decide)]
    exact e
  · have w : ∀ c, 64 ≤ c → c < 76 → (wr h4' 84 2 (nI 1)) c = h1 c := fun c a b => by rw [c64 c a (by omega), f3 c (by simp only [List.mem_cons, List.not_mem_nil, or_false, not_or]; omega), f2 c (by simp only [List.mem_cons, List.not_mem_nil, or_false, not_or]; omega)]
    exact (r1 _ hs.2).congr (by rw [w _ (by decide) (by decide)]) (w _ (by decide) (by decide)) (w _ (by decide) (by decide)) (w _ (by decide) (by decide)) (w _ (by decide) (by decide))
  · have w : ∀ c, 76 ≤ c → c < 79 → (wr h4' 84 2 (nI 1)) c = h2 c := fun c a b => by rw [c64 c (by omega) (by omega), f3 c (by simp only [List.mem_cons, List.not_mem_nil, or_false, not_or]; omega)]
    exact hm2.congr (w _ (by decide) (by decide)) (w _ (by decide) (by decide)) (w _ (by decide) (by decide))
  · exact q.1.c (fun j _ hj => c86 j (by omega)) so.1
  · exact q.2.congr' c86
  · have w2 : ∀ c, 16 ≤ c → c ≤ 20 → h2 c = h c := fun c a b => by rw [f2 c (by simp only [List.mem_cons, List.not_mem_nil, or_false, not_or]; omega), f1 c (by omega)]
    refine d1.c' (by rw [c64 79 (by decide) (by decide), k4, w2 16 (by decide) (by decide)]) (fun j hj => ?_) c86
    obtain ⟨x1, x2, x3, x4⟩ := kj j hj
    rw [c64 _ (by decide) (by decide), c64 _ (by decide) (by decide), c64 _ (by decide) (by decide), c64 _ (by decide) (by decide), x1, x2, x3, x4, w2 _ (by decide) (by decide), w2 _ (by decide) (by decide), w2 _ (by decide) (by decide), w2 _ (by decide) (by decide)]
    exact ⟨rfl, rfl, rfl, rfl⟩
theorem p_again : Pub S_174 S_294 := by
  intro h I
  obtain ⟨⟨s, m, C⟩, d1, d2, d3, d4, d5, d6, d7⟩ := id I
  obtain ⟨b0, k1, k2, k3⟩ := id d2
  cases b0 with
  | false => exact ⟨-nI 3, h, h, by simp (disch := omega) only [R_174_43, R_174_32, R_174_21, R_174_10, R_174_7, R_174_0, S_174, gd_t, bI_, bV_, bR_, and_self, and_true, true_and, ↓reduceIte, eq_self, oj_84, bI_1, bI_0, L0, L1, L2, L3, L7, L12, L13, L16, L64, L76, L79, L84, L85, L86, L361, k1], by simp (disch := omega) only [R_294_37, R_294_19, R_294_12, R_294_10, R_294_7, R_294_0, S_294, gd_t, bI_, bV_, bR_, and_self, and_true, true_and, ↓reduceIte, eq_self, oj_84, bI_1, bI_0, L0, L1, L2, L3, L7, L12, L13, L16, L64, L76, L79, L84, L85, L86, L361, k2], I⟩
  | true =>
    have h4 : h 84 4 = nI 0 := C.2.2.2.2.2
    obtain ⟨s', m', so, mo, y3, y4, y5, y6, y7, y8⟩ := k3 rfl
    obtain ⟨h1, g1, f1, s1, r1⟩ := s_172 (h := h) st1 st64 (by decide)
    have hm1 : MoAt h1 76 s' m' := y5.congr (f1 _ (by decide)) (f1 _ (by decide)) (f1 _ (by decide))
    obtain ⟨h2, g2, f2, hm2⟩ := s_88 mo13 mo76 (by decide) so hm1
    obtain ⟨h3, g3, f3, k4, kj⟩ := s_173 (h := h2) sr16 sr79 (by decide)
    have c3 : ∀ c, (c = 0 ∨ 21 ≤ c) → h3 c = h c := fun c hc => by
      rw [f3 c (by simp only [List.mem_cons, List.not_mem_nil, or_false, not_or]; omega), f2 c (by simp only [List.mem_cons, List.not_mem_nil, or_false, not_or]; omega), f1 c (by omega)]
    obtain ⟨h5, g5, f5, k5⟩ := m_294 (h := h3) (n0 := sN s') (by rw [c3 84 (by decide)]; exact k2) (by rw [c3 86 (by decide)]; exact y6.n)
    have c5 : ∀ c, (c = 0 ∨ 21 ≤ c ∧ c ≠ 85) → h5 c = h c := fun c hc => by rw [f5 c (by simp; omega), c3 c (by omega)]
    have c85 : ∀ j, j < 361 → h5 85 j = h 86 j := fun j hj => by rw [k5 j hj, c3 86 (by decide)]
    have w1 : ∀ c, 1 ≤ c → c ≤ 11 → h5 c = h1 c := fun c a b => by rw [f5 c (by simp; omega), f3 c (by simp only [List.mem_cons, List.not_mem_nil, or_false, not_or]; omega), f2 c (by simp only [List.mem_cons, List.not_mem_nil, or_false, not_or]; omega)]
    have hsg : SgAt h1 s' := s1 s' y3 so.1
    have hrl := r1 _ y4
    have hsf : SF h1 s' := ⟨hsg, hrl⟩
    have e17 : h3 1 7 = nI (sN s') := by rw [f3 1 (by decide), f2 1 (by decide)]; exact hsg.n
    refine ⟨nI (sN s'), h3, h5, by simp (disch := omega) only [R_174_43, R_174_32, R_174_21, R_174_10, R_174_7, R_174_0, S_174, gd_t, bI_, bV_, bR_, and_self, and_true, true_and, ↓reduceIte, eq_self, oj_84, bI_1, bI_0, L0, L1, L3, L7, L12, L13, L16, L64, L76, L79, k1, eq_f, g1, g2, g3, e17], g5, ⟨s', m', so, mo, hsf.congr (fun c a b => w1 c a b), ?_, ⟨y6.c (fun j _ hj => c85 j (by omega)) so.1, y7.congr' c85⟩, by rw [c5 84 (by decide)]; exact h4⟩, ?_, d2.c (by rw [c5 0 (by decide)]) (by rw [c5 84 (by decide)]) (fun i hi => c5 i (by omega)), d3.c (by rw [c5 21 (by decide)]) (by rw [c5 84 (by decide)]) (c5 22 (by decide)) (c5 89 (by decide)), d4.c (by rw [c5 0 (by decide)]) (by rw [c5 84 (by decide)]) (c5 63 (by decide)) (c5 93 (by decide)), d5.c (fun i hi => c5 i (by omega)), d6.c (fun i hi => c5 i (by omega)), d7.c (by rw [c5 61 (by decide)]) (by rw [c5 84 (by decide)]) (c5 62 (by decide)) (c5 100 (by decide))⟩
    · have w : ∀ c, 13 ≤ c → c ≤ 15 → h5 c = h2 c := fun c a b => by rw [f5 c (by simp; omega), f3 c (by simp only [List.mem_cons, List.not_mem_nil, or_false, not_or]; omega)]
      exact hm2.congr (w _ (by decide) (by decide)) (w _ (by decide) (by decide)) (w _ (by decide) (by decide))
    · have w2 : ∀ c, 79 ≤ c → c ≤ 83 → h2 c = h c := fun c a b => by rw [f2 c (by simp only [List.mem_cons, List.not_mem_nil, or_false, not_or]; omega), f1 c (by omega)]
      have w5 : ∀ c, 16 ≤ c → c ≤ 20 → h5 c = h3 c := fun c a b => f5 c (by simp; omega)
      refine y8.c' (by rw [w5 16 (by decide) (by decide), k4, w2 79 (by decide) (by decide)]) (fun j hj => ?_) c85
      obtain ⟨x1, x2, x3, x4⟩ := kj j hj
      rw [w5 _ (by decide) (by decide), w5 _ (by decide) (by decide), w5 _ (by decide) (by decide), w5 _ (by decide) (by decide), x1, x2, x3, x4, w2 _ (by decide) (by decide), w2 _ (by decide) (by decide), w2 _ (by decide) (by decide), w2 _ (by decide) (by decide)]
      exact ⟨rfl, rfl, rfl, rfl⟩
