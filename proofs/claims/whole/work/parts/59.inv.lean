/-! part 59: ranges of arguments; what class and model share between calls -/
def rng (a b : Nat) (v : Int32) : Bool := decide ((a : Int) ≤ v.toInt ∧ v.toInt ≤ (b : Int))
def scn (n : Nat) (v : Int32) : Bool := decide (0 ≤ v.toInt ∧ v.toInt < (n : Int))
theorem bI_z (b : Bool) : bI b = 0 ∨ bI b = 1 := by cases b <;> simp [bI]
theorem bI_n (b : Bool) : (bI b = nI 0 ∨ bI b = nI 1) = True := eq_true (bI_z b)
theorem toI_lit {a : Nat} (h : a < 2147483648) : (nI a).toInt = (a : Int) := nI_toInt h
theorem rng_t {a b : Nat} {v : Int32} (h : rng a b v = true) : ∃ n, a ≤ n ∧ n ≤ b ∧ v = nI n := by
  unfold rng at h
  have h2 := of_decide_eq_true h
  obtain ⟨j, hj, rfl⟩ := nI_of (x := v) (by rw [Int32.lt_iff_toInt_lt]; show ¬ v.toInt < 0; omega)
  rw [nI_toInt hj] at h2
  exact ⟨j, by omega, by omega, rfl⟩
theorem scn_t {n : Nat} {v : Int32} (h : scn n v = true) : ∃ k, k < n ∧ v = nI k := by
  unfold scn at h
  have h2 := of_decide_eq_true h
  obtain ⟨j, hj, rfl⟩ := nI_of (x := v) (by rw [Int32.lt_iff_toInt_lt]; show ¬ v.toInt < 0; omega)
  rw [nI_toInt hj] at h2
  exact ⟨j, by omega, rfl⟩
theorem s_11 {h : Hp} {v a b : Int32} : S_11 v a b h = some (bI (decide (a.toInt ≤ v.toInt ∧ v.toInt ≤ b.toInt)), h) := by
  by_cases c1 : v < a
  · have : ¬ (a.toInt ≤ v.toInt ∧ v.toInt ≤ b.toInt) := fun q => by rw [Int32.lt_iff_toInt_lt] at c1; omega
    rw [decide_eq_false this]
    simp only [R_11_14, R_11_10, R_11_5, R_11_0, S_11, c1, ↓reduceIte]
    rfl
  · by_cases c2 : b < v
    · have : ¬ (a.toInt ≤ v.toInt ∧ v.toInt ≤ b.toInt) := fun q => by rw [Int32.lt_iff_toInt_lt] at c2; omega
      rw [decide_eq_false this]
      simp only [R_11_14, R_11_10, R_11_5, R_11_0, S_11, c1, c2, ↓reduceIte]
      rfl
    · have : a.toInt ≤ v.toInt ∧ v.toInt ≤ b.toInt := by rw [Int32.lt_iff_toInt_lt] at c1 c2; omega
      rw [decide_eq_true this]
      simp only [R_11_14, R_11_10, R_11_5, R_11_0, S_11, c1, c2, ↓reduceIte]
      rfl
theorem s_11r {h : Hp} {v : Int32} {a b : Nat} (ha : a < 2147483648) (hb : b < 2147483648) : S_11 v (nI a) (nI b) h = some (bI (rng a b v), h) := by
  rw [s_11, nI_toInt ha, nI_toInt hb]
  rfl
theorem s_177 {h : Hp} {x a b : Int64} : S_177 x a b h = some (bI (decide (a.toInt ≤ x.toInt ∧ x.toInt ≤ b.toInt)), h) := by
  have e1 : (lg_cmp x a < 0) ↔ x.toInt < a.toInt := by
    rw [← Int64.lt_iff_toInt_lt]
    unfold lg_cmp
    by_cases q : x > a
    · rw [if_pos q]; exact ⟨fun w => absurd w (by decide), fun w => absurd w (by rw [Int64.lt_iff_toInt_lt]; have := Int64.lt_iff_toInt_lt.mp q; omega)⟩
    · rw [if_neg q]
      by_cases q2 : x = a
      · rw [if_pos q2]; subst q2; exact ⟨fun w => absurd w (by decide), fun w => absurd w q⟩
      · rw [if_neg q2]
        refine ⟨fun _ => ?_, fun _ => by decide⟩
        rw [Int64.lt_iff_toInt_lt]
        have h1 : ¬ a.toInt < x.toInt := fun w => q (Int64.lt_iff_toInt_lt.mpr w)
        have h2 : x.toInt ≠ a.toInt := fun w => q2 (Int64.toInt_inj.mp w)
        omega
  have e2 : (0 < lg_cmp x b) ↔ b.toInt < x.toInt := by
    rw [← Int64.lt_iff_toInt_lt]
    unfold lg_cmp
    by_cases q : x > b
    · rw [if_pos q]; exact ⟨fun _ => q, fun _ => by decide⟩
    · rw [if_neg q]
      refine ⟨fun w => ?_, fun w => absurd w q⟩
      by_cases q2 : x = b
      · rw [if_pos q2] at w; exact absurd w (by decide)
      · rw [if_neg q2] at w; exact absurd w (by decide)
  by_cases c1 : x.toInt < a.toInt
  · rw [decide_eq_false (by omega)]
    simp only [R_177_17, R_177_13, R_177_6, R_177_0, S_177, e1, c1, ↓reduceIte]
    rfl
  · by_cases c2 : b.toInt < x.toInt
    · rw [decide_eq_false (by omega)]
      simp only [R_177_17, R_177_13, R_177_6, R_177_0, S_177, e1, e2, c1, c2, ↓reduceIte]
      rfl
    · rw [decide_eq_true (by omega)]
      simp only [R_177_17, R_177_13, R_177_6, R_177_0, S_177, e1, e2, c1, c2, ↓reduceIte]
      rfl
theorem s_177r {h : Hp} {v : Int32} {a b : Nat} (ha : a < 2147483648) (hb : b < 2147483648) : S_177 (Int32.toInt64 v) (Int32.toInt64 (nI a)) (Int32.toInt64 (nI b)) h = some (bI (rng a b v), h) := by
  rw [s_177, Int32.toInt_toInt64, Int32.toInt_toInt64, Int32.toInt_toInt64, nI_toInt ha, nI_toInt hb]
  rfl
theorem scn_eq {n : Nat} (hn : n ≤ 100) (v : Int32) : decide ((nI 0).toInt ≤ v.toInt ∧ v.toInt ≤ (nI n - nI 1).toInt) = scn n v := by
  unfold scn
  rw [pk_sub_toInt (by omega) (by decide), nI_toInt (by decide)]
  congr 1
  apply propext
  constructor <;> intro q <;> omega
theorem s_14 {h : Hp} {v : Int32} {n : Nat} (hn : n ≤ 6) (e : h 1 7 = nI n) : S_14 v h = some (bI (scn n v), h) := by
  simp only [R_14_14, R_14_0, S_14, gd_t, bI_, bV_, bR_, and_self, and_true, true_and, ↓reduceIte, eq_self, oj_84, bI_1, bI_0, L0, L1, L7, e, s_11, scn_eq (show n ≤ 100 by omega), bI_n]
theorem s_180 {h : Hp} {v : Int32} {n : Nat} (hn : n ≤ 6) (e : h 85 0 = nI n) : S_180 v h = some (bI (scn n v), h) := by
  have J0 : (0 : Int64) = Int32.toInt64 (nI 0) := rfl
  have z0 : (nI 0).toNatClampNeg = 0 := rfl
  have ia : IA 85 (nI 0) = True := ia_85 (by decide)
  simp only [R_180_15, R_180_0, S_180, gd_t, bI_, bV_, bR_, and_self, and_true, true_and, ↓reduceIte, eq_self, oj_84, bI_1, bI_0, L0, L1, L85, ia, z0, e, s_177, J0, Int32.toInt_toInt64, scn_eq (show n ≤ 100 by omega), bI_n]
theorem s_12 {h : Hp} {v : Int32} : S_12 v h = some (bI (rng 0 5 v), h) := by
  simp (disch := omega) only [R_12_6, R_12_0, S_12, gd_t, bI_, bV_, bR_, and_self, and_true, true_and, ↓reduceIte, eq_self, oj_84, bI_1, bI_0, L0, L1, L5, s_11r, bI_n]
theorem s_108 {h : Hp} {v : Int32} : S_108 v h = some (bI (rng 0 4 v), h) := by
  simp (disch := omega) only [R_108_6, R_108_0, S_108, gd_t, bI_, bV_, bR_, and_self, and_true, true_and, ↓reduceIte, eq_self, oj_84, bI_1, bI_0, L0, L1, L4, s_11r, bI_n]
theorem s_247 {h : Hp} {v : Int32} : S_247 v h = some (bI (rng 0 4 v), h) := by
  have J0 : (0 : Int64) = Int32.toInt64 (nI 0) := rfl
  have J4 : (4 : Int64) = Int32.toInt64 (nI 4) := rfl
  simp (disch := omega) only [R_247_9, R_247_0, S_247, gd_t, bI_, bV_, bR_, and_self, and_true, true_and, ↓reduceIte, eq_self, oj_84, bI_1, bI_0, L0, L1, L4, J0, J4, s_177r, bI_n]
/-- a stage at base b -/
def SgAtB (h : Hp) (b : Nat) (s : Sg) : Prop := h b 7 = nI (sN s) ∧ (∀ k, k < sN s → h (b + 1) k = nI (sKind s k) ∧ h (b + 2) k = nI (sPlace s k)) ∧ (∀ t, t < 16 → h (b + 3) t = nI (sHouse s t)) ∧ (∀ f, f < 6 → h (b + 4) f = nI (sLight s f) ∧ h (b + 5) f = nI (sNoise s f)) ∧ h b 8 = nI (sEnd s)
/-- reports at base b of the class, in the row σ of the model -/
def RepR (h : Hp) (b : Nat) (σ : Nat → Int32) (n : Nat) (K A L M : Nat → Nat) : Prop := n ≤ 6 ∧ h b 4 = nI n ∧ σ 6 = nI n ∧ ∀ r, r < n → K r ≤ 15 ∧ A r ≤ 1 ∧ L r ≤ M r ∧ M r ≤ 999 ∧ h (b + 1) r = nI (K r) ∧ h (b + 2) r = nI (A r) ∧ h (b + 3) r = nI (L r) ∧ h (b + 4) r = nI (M r) ∧ σ (65 + 4 * r) = nI (K r) ∧ σ (65 + 4 * r + 1) = nI (A r) ∧ σ (65 + 4 * r + 2) = nI (L r) ∧ σ (65 + 4 * r + 3) = nI (M r)
def RepI (h : Hp) (b : Nat) (σ : Nat → Int32) : Prop := ∃ n K A L M, RepR h b σ n K A L M
def KepI (h : Hp) : Prop := ∃ b : Bool, h 0 12 = bI b ∧ h 84 2 = bI b ∧ (b = true → ∃ s m, SgOk s ∧ MoOk s m ∧ SgAtB h 64 s ∧ RulesAt h 70 (sRules s) ∧ MoAt h 76 s m ∧ MdAt (h 86) s m ∧ RulesM (h 86) (sRules s) ∧ RepI h 79 (h 86))
def TapI (h : Hp) : Prop := ∃ (n : Nat) (T : Nat → Nat), n ≤ 200 ∧ h 21 1 = nI n ∧ h 84 7 = nI n ∧ ∀ j, j < n → T j ≤ 255 ∧ h 22 j = nI (T j) ∧ h 89 j = nI (T j)
def RowI (h : Hp) : Prop := ∃ n, n ≤ 4 ∧ h 0 8 = nI n ∧ h 84 27 = nI n ∧ ∀ j, j < 3 * n → h 63 j = h 93 j
def SheI (h : Hp) : Prop := ∀ t, t < 4 → ∃ c n, c ≤ 5 ∧ n ≤ 40 ∧ h 51 t = nI c - nI 1 ∧ h 94 t = nI c ∧ h 52 t = nI n ∧ h 95 t = nI n ∧ ∀ j, j < n → h (54 + t) j = h 96 (40 * t + j)
def ShlI (h : Hp) : Prop := ∀ t, t < 4 → ∃ c, c ≤ 2 ∧ h 58 t = nI c ∧ h 97 t = nI c ∧ (c ≠ 0 → ∃ k, k ≤ 5 ∧ h 59 t = nI k ∧ h 98 t = nI k) ∧ (c = 2 → ∃ n, n ≤ 40 ∧ h 60 t = nI n ∧ h 99 t = nI n)
def TraI (h : Hp) : Prop := ∃ n, n ≤ 30 ∧ h 61 1 = nI n ∧ h 84 35 = nI n ∧ ∀ j, j < n → h 62 j = h 100 j
def Core (h : Hp) (s : Sg) (m : Mo) : Prop := SgOk s ∧ MoOk s m ∧ SF h s ∧ MoAt h 13 s m ∧ SMd h s m ∧ h 84 4 = nI 0
def Side (h : Hp) : Prop := RepI h 16 (h 85) ∧ KepI h ∧ TapI h ∧ RowI h ∧ SheI h ∧ ShlI h ∧ TraI h
def Inv (h : Hp) : Prop := (∃ s m, Core h s m) ∧ Side h
def KeepC (c : Nat) : Prop := c ≠ 12 ∧ c ≠ 16 ∧ c ≠ 21 ∧ (c < 23 ∨ 50 ≤ c) ∧ c ≠ 61 ∧ c ≠ 75 ∧ c ≠ 84 ∧ c ≠ 87 ∧ c ≠ 88 ∧ c ≠ 90 ∧ c ≠ 91 ∧ c ≠ 92
/-- nothing that counts has changed -/
def Agr (h h' : Hp) : Prop := (∀ c, KeepC c → h' c = h c) ∧ h' 16 4 = h 16 4 ∧ h' 21 1 = h 21 1 ∧ h' 61 1 = h 61 1 ∧ ∀ j, (j = 2 ∨ j = 4 ∨ j = 7 ∨ j = 27 ∨ j = 35) → h' 84 j = h 84 j
/-- nothing that counts has changed, stage and moment apart -/
def AgrS (h h' : Hp) : Prop := (∀ c, KeepC c → (c = 0 ∨ 16 ≤ c) → c ≠ 85 → h' c = h c) ∧ h' 16 4 = h 16 4 ∧ h' 21 1 = h 21 1 ∧ h' 61 1 = h 61 1 ∧ (∀ j, (j = 2 ∨ j = 4 ∨ j = 7 ∨ j = 27 ∨ j = 35) → h' 84 j = h 84 j) ∧ ∀ j, (j = 6 ∨ (65 ≤ j ∧ j < 89)) → h' 85 j = h 85 j
theorem Agr.tr {h h1 h2 : Hp} (a : Agr h h1) (b : Agr h1 h2) : Agr h h2 := ⟨fun c e => (b.1 c e).trans (a.1 c e), b.2.1.trans a.2.1, b.2.2.1.trans a.2.2.1, b.2.2.2.1.trans a.2.2.2.1, fun j e => (b.2.2.2.2 j e).trans (a.2.2.2.2 j e)⟩
theorem AgrS.tr {h h1 h2 : Hp} (a : AgrS h h1) (b : AgrS h1 h2) : AgrS h h2 := ⟨fun c e e2 e3 => (b.1 c e e2 e3).trans (a.1 c e e2 e3), b.2.1.trans a.2.1, b.2.2.1.trans a.2.2.1, b.2.2.2.1.trans a.2.2.2.1, fun j e => (b.2.2.2.2.1 j e).trans (a.2.2.2.2.1 j e), fun j e => (b.2.2.2.2.2 j e).trans (a.2.2.2.2.2 j e)⟩
theorem keepC {c : Nat} (h : c ≠ 12 ∧ c ≠ 16 ∧ c ≠ 21 ∧ (c < 23 ∨ 50 ≤ c) ∧ c ≠ 61 ∧ c ≠ 75 ∧ c ≠ 84 ∧ c ≠ 87 ∧ c ≠ 88 ∧ c ≠ 90 ∧ c ≠ 91 ∧ c ≠ 92) : KeepC c := h
theorem Agr.s {h h' : Hp} (a : Agr h h') : AgrS h h' := ⟨fun c e _ _ => a.1 c e, a.2.1, a.2.2.1, a.2.2.2.1, a.2.2.2.2, fun j _ => by rw [a.1 85 (keepC (by decide))]⟩
theorem Agr.cell {h h' : Hp} (a : Agr h h') (c : Nat) (hc : c ≠ 12 ∧ c ≠ 16 ∧ c ≠ 21 ∧ (c < 23 ∨ 50 ≤ c) ∧ c ≠ 61 ∧ c ≠ 75 ∧ c ≠ 84 ∧ c ≠ 87 ∧ c ≠ 88 ∧ c ≠ 90 ∧ c ≠ 91 ∧ c ≠ 92) : h' c = h c := a.1 c hc
theorem Core.agr {h h' : Hp} {s : Sg} {m : Mo} (q : Core h s m) (a : Agr h h') : Core h' s m := by
  obtain ⟨q1, q2, q3, q4, q5, q6⟩ := q
  refine ⟨q1, q2, q3.congr (fun c _ _ => a.cell c (by omega)), q4.congr (a.cell _ (by decide)) (a.cell _ (by decide)) (a.cell _ (by decide)), ?_, by rw [a.2.2.2.2 4 (by decide)]; exact q6⟩
  unfold SMd
  rw [a.cell 85 (by decide)]
  exact q5
theorem Side.agr {h h' : Hp} (q : Side h) (a : AgrS h h') : Side h' := by
  obtain ⟨a1, a2, a3, a4, a5, a6⟩ := a
  have cl : ∀ c, (c ≠ 12 ∧ c ≠ 16 ∧ c ≠ 21 ∧ (c < 23 ∨ 50 ≤ c) ∧ c ≠ 61 ∧ c ≠ 75 ∧ c ≠ 84 ∧ c ≠ 87 ∧ c ≠ 88 ∧ c ≠ 90 ∧ c ≠ 91 ∧ c ≠ 92 ∧ (c = 0 ∨ 16 ≤ c) ∧ c ≠ 85) → h' c = h c := fun c e => a1 c (by unfold KeepC; omega) (by omega) (by omega)
  obtain ⟨⟨n, K, A, L, M, r1, r2, r3, r4⟩, ⟨b, k1, k2, k3⟩, ⟨tn, T, t1, t2, t3, t4⟩, ⟨rn, o1, o2, o3, o4⟩, q5, q6, ⟨an, x1, x2, x3, x4⟩⟩ := q
  refine ⟨⟨n, K, A, L, M, r1, by rw [a2]; exact r2, by rw [a6 6 (by omega)]; exact r3, fun r hr => ?_⟩, ⟨b, by rw [cl 0 (by decide)]; exact k1, by rw [a5 2 (by omega)]; exact k2, fun hb => ?_⟩, ⟨tn, T, t1, by rw [a3]; exact t2, by rw [a5 7 (by omega)]; exact t3, fun j hj => by rw [cl 22 (by decide), cl 89 (by decide)]; exact t4 j hj⟩, ⟨rn, o1, by rw [cl 0 (by decide)]; exact o2, by rw [a5 27 (by omega)]; exact o3, by rw [cl 63 (by decide), cl 93 (by decide)]; exact o4⟩, fun t ht => ?_, fun t ht => ?_, ⟨an, x1, by rw [a4]; exact x2, by rw [a5 35 (by omega)]; exact x3, by rw [cl 62 (by decide), cl 100 (by decide)]; exact x4⟩⟩
  · obtain ⟨u1, u2, u3, u4, u5⟩ := r4 r hr
    refine ⟨u1, u2, u3, u4, ?_⟩
    rw [cl (16 + 1) (by decide), cl (16 + 2) (by decide), cl (16 + 3) (by decide), cl (16 + 4) (by decide), a6 _ (by omega), a6 _ (by omega), a6 _ (by omega), a6 _ (by omega)]
    exact u5
  · obtain ⟨s, m, y1, y2, y3, y4, y5, y6, y7, y8⟩ := k3 hb
    refine ⟨s, m, y1, y2, ?_, y4.congr (by rw [cl _ (by decide)]) (cl _ (by decide)) (cl _ (by decide)) (cl _ (by decide)) (cl _ (by decide)), y5.congr (cl _ (by decide)) (cl _ (by decide)) (cl _ (by decide)), by rw [cl 86 (by decide)]; exact y6, by rw [cl 86 (by decide)]; exact y7, ?_⟩
    · unfold SgAtB at y3 ⊢
      rw [cl 64 (by decide), cl (64 + 1) (by decide), cl (64 + 2) (by decide), cl (64 + 3) (by decide), cl (64 + 4) (by decide), cl (64 + 5) (by decide)]
      exact y3
    · obtain ⟨n, K, A, L, M, z1, z2, z3, z4⟩ := y8
      refine ⟨n, K, A, L, M, z1, by rw [cl 79 (by decide)]; exact z2, by rw [cl 86 (by decide)]; exact z3, ?_⟩
      rw [cl 86 (by decide), cl (79 + 1) (by decide), cl (79 + 2) (by decide), cl (79 + 3) (by decide), cl (79 + 4) (by decide)]
      exact z4
  · have := q5 t ht
    rw [cl 51 (by decide), cl 52 (by decide), cl 94 (by decide), cl 95 (by decide), cl 96 (by decide), cl (54 + t) (by omega)]
    exact this
  · have := q6 t ht
    rw [cl 58 (by decide), cl 59 (by decide), cl 60 (by decide), cl 97 (by decide), cl 98 (by decide), cl 99 (by decide)]
    exact this
theorem Inv.agr {h h' : Hp} (q : Inv h) (a : Agr h h') : Inv h' := by
  obtain ⟨⟨s, m, c⟩, d⟩ := q
  exact ⟨⟨s, m, c.agr a⟩, d.agr a.s⟩
/-- class's and model's call answer alike, and what they share holds again -/
def Pub (f g : Hp → Option (Int32 × Hp)) : Prop := ∀ h, Inv h → ∃ x h1 h2, f h = some (x, h1) ∧ g h1 = some (x, h2) ∧ Inv h2
/-- the class's scratch -/
def ScrC : List Nat := [12, 33, 34, 35, 36, 37, 38, 39, 40, 41, 42, 43, 44, 45, 46, 47, 48, 49]
theorem Agr.ofC {h h' : Hp} (a : Same (31 :: ScrC) h h') : Agr h h' := by
  have cl : ∀ c, (c ≠ 12 ∧ ¬ (31 ≤ c ∧ c ≤ 49)) → h' c = h c := fun c e => a c (by unfold ScrC; simp only [List.mem_cons, List.not_mem_nil, or_false]; omega)
  refine ⟨fun c e => cl c (by unfold KeepC at e; omega), by rw [cl 16 (by decide)], by rw [cl 21 (by decide)], by rw [cl 61 (by decide)], fun j _ => by rw [cl 84 (by decide)]⟩
theorem Agr.ofM {h h' : Hp} {l : List Nat} (a : BFr 0 h h') (b : ∀ j, j ∉ l → j ≠ 4 → h' 84 j = h 84 j) (hl : ∀ j ∈ l, j ≠ 2 ∧ j ≠ 7 ∧ j ≠ 27 ∧ j ≠ 35) : Agr h h' := by
  refine ⟨fun c e => a.1 c (by unfold KeepC at e; omega) (by unfold KeepC at e; omega) (by unfold KeepC at e; omega), by rw [a.1 16 (by decide) (by decide) (by decide)], by rw [a.1 21 (by decide) (by decide) (by decide)], by rw [a.1 61 (by decide) (by decide) (by decide)], fun j hj => ?_⟩
  by_cases e : j = 4
  · rw [e]; exact a.2.1
  · exact b j (fun q => by have := hl j q; omega) e
