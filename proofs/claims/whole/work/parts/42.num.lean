/-! part 42: numbers for simp; places of the arrays (wip/whole/mk42.py) -/
theorem L0 : (0 : Int32) = nI 0 := rfl
theorem L1 : (1 : Int32) = nI 1 := rfl
theorem L2 : (2 : Int32) = nI 2 := rfl
theorem L3 : (3 : Int32) = nI 3 := rfl
theorem L4 : (4 : Int32) = nI 4 := rfl
theorem L5 : (5 : Int32) = nI 5 := rfl
theorem L6 : (6 : Int32) = nI 6 := rfl
theorem L7 : (7 : Int32) = nI 7 := rfl
theorem L8 : (8 : Int32) = nI 8 := rfl
theorem L9 : (9 : Int32) = nI 9 := rfl
theorem L10 : (10 : Int32) = nI 10 := rfl
theorem L11 : (11 : Int32) = nI 11 := rfl
theorem L12 : (12 : Int32) = nI 12 := rfl
theorem L13 : (13 : Int32) = nI 13 := rfl
theorem L14 : (14 : Int32) = nI 14 := rfl
theorem L15 : (15 : Int32) = nI 15 := rfl
theorem L16 : (16 : Int32) = nI 16 := rfl
theorem L17 : (17 : Int32) = nI 17 := rfl
theorem L18 : (18 : Int32) = nI 18 := rfl
theorem L19 : (19 : Int32) = nI 19 := rfl
theorem L20 : (20 : Int32) = nI 20 := rfl
theorem L21 : (21 : Int32) = nI 21 := rfl
theorem L22 : (22 : Int32) = nI 22 := rfl
theorem L23 : (23 : Int32) = nI 23 := rfl
theorem L24 : (24 : Int32) = nI 24 := rfl
theorem L25 : (25 : Int32) = nI 25 := rfl
theorem L26 : (26 : Int32) = nI 26 := rfl
theorem L27 : (27 : Int32) = nI 27 := rfl
theorem L28 : (28 : Int32) = nI 28 := rfl
theorem L29 : (29 : Int32) = nI 29 := rfl
theorem L30 : (30 : Int32) = nI 30 := rfl
theorem L31 : (31 : Int32) = nI 31 := rfl
theorem L32 : (32 : Int32) = nI 32 := rfl
theorem L33 : (33 : Int32) = nI 33 := rfl
theorem L34 : (34 : Int32) = nI 34 := rfl
theorem L35 : (35 : Int32) = nI 35 := rfl
theorem L36 : (36 : Int32) = nI 36 := rfl
theorem L37 : (37 : Int32) = nI 37 := rfl
theorem L38 : (38 : Int32) = nI 38 := rfl
theorem L39 : (39 : Int32) = nI 39 := rfl
theorem L40 : (40 : Int32) = nI 40 := rfl
theorem L41 : (41 : Int32) = nI 41 := rfl
theorem L48 : (48 : Int32) = nI 48 := rfl
theorem L50 : (50 : Int32) = nI 50 := rfl
theorem L51 : (51 : Int32) = nI 51 := rfl
theorem L52 : (52 : Int32) = nI 52 := rfl
theorem L54 : (54 : Int32) = nI 54 := rfl
theorem L57 : (57 : Int32) = nI 57 := rfl
theorem L58 : (58 : Int32) = nI 58 := rfl
theorem L59 : (59 : Int32) = nI 59 := rfl
theorem L60 : (60 : Int32) = nI 60 := rfl
theorem L61 : (61 : Int32) = nI 61 := rfl
theorem L62 : (62 : Int32) = nI 62 := rfl
theorem L63 : (63 : Int32) = nI 63 := rfl
theorem L64 : (64 : Int32) = nI 64 := rfl
theorem L65 : (65 : Int32) = nI 65 := rfl
theorem L76 : (76 : Int32) = nI 76 := rfl
theorem L79 : (79 : Int32) = nI 79 := rfl
theorem L84 : (84 : Int32) = nI 84 := rfl
theorem L85 : (85 : Int32) = nI 85 := rfl
theorem L86 : (86 : Int32) = nI 86 := rfl
theorem L87 : (87 : Int32) = nI 87 := rfl
theorem L88 : (88 : Int32) = nI 88 := rfl
theorem L89 : (89 : Int32) = nI 89 := rfl
theorem L90 : (90 : Int32) = nI 90 := rfl
theorem L91 : (91 : Int32) = nI 91 := rfl
theorem L92 : (92 : Int32) = nI 92 := rfl
theorem L93 : (93 : Int32) = nI 93 := rfl
theorem L94 : (94 : Int32) = nI 94 := rfl
theorem L95 : (95 : Int32) = nI 95 := rfl
theorem L96 : (96 : Int32) = nI 96 := rfl
theorem L97 : (97 : Int32) = nI 97 := rfl
theorem L98 : (98 : Int32) = nI 98 := rfl
theorem L99 : (99 : Int32) = nI 99 := rfl
theorem L100 : (100 : Int32) = nI 100 := rfl
theorem L121 : (121 : Int32) = nI 121 := rfl
theorem L122 : (122 : Int32) = nI 122 := rfl
theorem L200 : (200 : Int32) = nI 200 := rfl
theorem L249 : (249 : Int32) = nI 249 := rfl
theorem L255 : (255 : Int32) = nI 255 := rfl
theorem L361 : (361 : Int32) = nI 361 := rfl
theorem L423 : (423 : Int32) = nI 423 := rfl
theorem L499 : (499 : Int32) = nI 499 := rfl
theorem L594 : (594 : Int32) = nI 594 := rfl
theorem L999 : (999 : Int32) = nI 999 := rfl
theorem L1111 : (1111 : Int32) = nI 1111 := rfl
theorem L10000 : (10000 : Int32) = nI 10000 := rfl
theorem L10631 : (10631 : Int32) = nI 10631 := rfl
theorem L12345 : (12345 : Int32) = nI 12345 := rfl
theorem L20000 : (20000 : Int32) = nI 20000 := rfl
theorem L20033 : (20033 : Int32) = nI 20033 := rfl
theorem L20038 : (20038 : Int32) = nI 20038 := rfl
theorem L20124 : (20124 : Int32) = nI 20124 := rfl
theorem L94196 : (94196 : Int32) = nI 94196 := rfl
theorem L100000 : (100000 : Int32) = nI 100000 := rfl
theorem L220309 : (220309 : Int32) = nI 220309 := rfl
theorem L259906 : (259906 : Int32) = nI 259906 := rfl
theorem L355278 : (355278 : Int32) = nI 355278 := rfl
theorem L407038 : (407038 : Int32) = nI 407038 := rfl
theorem L1000000 : (1000000 : Int32) = nI 1000000 := rfl
theorem L1960177 : (1960177 : Int32) = nI 1960177 := rfl
theorem L6943085 : (6943085 : Int32) = nI 6943085 := rfl
theorem L7622660 : (7622660 : Int32) = nI 7622660 := rfl
theorem L10160456 : (10160456 : Int32) = nI 10160456 := rfl
theorem L10989714 : (10989714 : Int32) = nI 10989714 := rfl
theorem L10998971 : (10998971 : Int32) = nI 10998971 := rfl
theorem L212302449 : (212302449 : Int32) = nI 212302449 := rfl
theorem L239262010 : (239262010 : Int32) = nI 239262010 := rfl
theorem L252645135 : (252645135 : Int32) = nI 252645135 := rfl
theorem L284079062 : (284079062 : Int32) = nI 284079062 := rfl
theorem L858993459 : (858993459 : Int32) = nI 858993459 := rfl
theorem L1103515245 : (1103515245 : Int32) = nI 1103515245 := rfl
theorem L1431655765 : (1431655765 : Int32) = nI 1431655765 := rfl
theorem le_t {a b : Nat} (h : a ≤ b) (hb : b < 2147483648) : (nI a ≤ nI b) = True := eq_true (nI_le h hb)
theorem le_f {a b : Nat} (h : b < a) (ha : a < 2147483648) : (nI a ≤ nI b) = False := eq_false (nI_ge h ha)
theorem le_i {a b : Nat} (ha : a < 2147483648) (hb : b < 2147483648) : (nI a ≤ nI b) = (a ≤ b) := propext (nI_leI ha hb)
theorem lt_t {a b : Nat} (h : a < b) (hb : b < 2147483648) : (nI a < nI b) = True := eq_true (nI_lt h hb)
theorem lt_f {a b : Nat} (h : b ≤ a) (ha : a < 2147483648) : (nI a < nI b) = False := eq_false (nI_nlt h ha)
theorem lt_i {a b : Nat} (ha : a < 2147483648) (hb : b < 2147483648) : (nI a < nI b) = (a < b) := propext (nI_ltI ha hb)
theorem eq_t {a b : Nat} (h : a = b) : (nI a = nI b) = True := eq_true (congrArg nI h)
theorem eq_f {a b : Nat} (h : a ≠ b) (ha : a < 2147483648) (hb : b < 2147483648) : (nI a = nI b) = False := eq_false (fun q => h ((nI_eq ha hb).mp q))
theorem eq_i {a b : Nat} (ha : a < 2147483648) (hb : b < 2147483648) : (nI a = nI b) = (a = b) := propext (nI_eq ha hb)
theorem nsub {a b : Nat} (h : b ≤ a) : nI a - nI b = nI (a - b) := pk_sub h
theorem nm1 {a : Nat} (h : 1 ≤ a) : nI a + -nI 1 = nI (a - 1) := by
  obtain ⟨b, rfl⟩ : ∃ b, a = b + 1 := ⟨a - 1, by omega⟩
  exact pk_m1 b
theorem nmul (a b : Nat) : nI a * nI b = nI (a * b) := pk_mul a b
theorem ndiv {a b : Nat} (ha : a < 2147483648) (h0 : 0 < b) (hb : b < 2147483648) : nI a / nI b = nI (a / b) := pk_div ha h0 hb
theorem nrem {a b : Nat} (ha : a < 2147483648) (h0 : 0 < b) (hb : b < 2147483648) : nI a - nI a / nI b * nI b = nI (a % b) := pk_rem ha h0 hb
theorem nrem' {a b : Nat} (ha : a < 2147483648) (h0 : 0 < b) (hb : b < 2147483648) : nI a - nI (a / b * b) = nI (a % b) := by
  rw [← nrem ha h0 hb, ndiv ha h0 hb, nmul]
theorem nrN (a b : Nat) : a - a / b * b = a % b := by rw [Nat.mod_def, Nat.mul_comm]
theorem lt0F {a b : Nat} (h : a ≤ b) (ha : a < 1073741824) (hb : b < 1073741824) : (nI 0 < nI a - nI b) = False := eq_false (sub_le0 ha hb h)
theorem ncl {k : Nat} (h : k < 2147483648) : (nI k).toNatClampNeg = k := nI_clamp h
theorem nmax0 {a b : Nat} (ha : a < 1073741824) (hb : b < 1073741824) : (if nI 0 < nI a - nI b then nI a - nI b else nI 0) = nI (a - b) := maxsub ha hb
theorem nmin {a c : Nat} (ha : a < 2147483648) (hc : c < 2147483648) : (if nI a < nI c then nI a else nI c) = nI (min c a) := minc ha hc
theorem vpN {k n : Nat} (h : k < n) (hn : n < 2147483648) : vp_in (nI k) n = True := eq_true (vp_in_nI h hn)
theorem ne_i {a b : Nat} (h : a ≠ b) : (a = b) = False := eq_false h
theorem nset : ∀ s, s < 64 → ∀ k, k < 6 → ((nI s) >>> ((nI k) &&& nI 31)) &&& nI 1 = nI ((s.testBit k).toNat) := by decide +kernel
theorem nset' {s k : Nat} (h1 : s < 64) (h2 : k < 6) : ((nI s) >>> ((nI k) &&& nI 31)) &&& nI 1 = nI ((s.testBit k).toNat) := nset s h1 k h2
theorem nbit : ∀ k, k < 6 → (nI 1) <<< ((nI k) &&& nI 31) = nI (2 ^ k) := by decide +kernel
theorem nbit' {k : Nat} (h : k < 6) : (nI 1) <<< ((nI k) &&& nI 31) = nI (2 ^ k) := nbit k h
theorem nor : ∀ s, s < 64 → ∀ t, t < 64 → nI s ||| nI t = nI (s ||| t) := by decide +kernel
theorem nor' {s t : Nat} (h1 : s < 64) (h2 : t < 64) : nI s ||| nI t = nI (s ||| t) := nor s h1 t h2
theorem nand : ∀ s, s < 64 → ∀ t, t < 64 → nI s &&& nI t = nI (s &&& t) := by decide +kernel
theorem nand' {s t : Nat} (h1 : s < 64) (h2 : t < 64) : nI s &&& nI t = nI (s &&& t) := nand s h1 t h2
theorem wr_s {h : Hp} {a k : Nat} {x : Int32} : wr h a k x a k = x := wr_self
theorem ite_t {α : Type} {c : Prop} [Decidable c] {a b : α} (h : c) : (if c then a else b) = a := if_pos h
theorem ite_f {α : Type} {c : Prop} [Decidable c] {a b : α} (h : ¬ c) : (if c then a else b) = b := if_neg h
theorem ia_2 {k : Nat} (h : k < 6) : IA 2 (nI k) = True := eq_true (IA.of rfl h (by decide))
theorem ia_3 {k : Nat} (h : k < 6) : IA 3 (nI k) = True := eq_true (IA.of rfl h (by decide))
theorem ia_4 {k : Nat} (h : k < 16) : IA 4 (nI k) = True := eq_true (IA.of rfl h (by decide))
theorem ia_5 {k : Nat} (h : k < 6) : IA 5 (nI k) = True := eq_true (IA.of rfl h (by decide))
theorem ia_6 {k : Nat} (h : k < 6) : IA 6 (nI k) = True := eq_true (IA.of rfl h (by decide))
theorem ia_8 {k : Nat} (h : k < 8) : IA 8 (nI k) = True := eq_true (IA.of rfl h (by decide))
theorem ia_9 {k : Nat} (h : k < 8) : IA 9 (nI k) = True := eq_true (IA.of rfl h (by decide))
theorem ia_10 {k : Nat} (h : k < 8) : IA 10 (nI k) = True := eq_true (IA.of rfl h (by decide))
theorem ia_11 {k : Nat} (h : k < 200) : IA 11 (nI k) = True := eq_true (IA.of rfl h (by decide))
theorem ia_12 {k : Nat} (h : k < 5) : IA 12 (nI k) = True := eq_true (IA.of rfl h (by decide))
theorem ia_14 {k : Nat} (h : k < 6) : IA 14 (nI k) = True := eq_true (IA.of rfl h (by decide))
theorem ia_15 {k : Nat} (h : k < 6) : IA 15 (nI k) = True := eq_true (IA.of rfl h (by decide))
theorem ia_17 {k : Nat} (h : k < 6) : IA 17 (nI k) = True := eq_true (IA.of rfl h (by decide))
theorem ia_18 {k : Nat} (h : k < 6) : IA 18 (nI k) = True := eq_true (IA.of rfl h (by decide))
theorem ia_19 {k : Nat} (h : k < 6) : IA 19 (nI k) = True := eq_true (IA.of rfl h (by decide))
theorem ia_20 {k : Nat} (h : k < 6) : IA 20 (nI k) = True := eq_true (IA.of rfl h (by decide))
theorem ia_22 {k : Nat} (h : k < 200) : IA 22 (nI k) = True := eq_true (IA.of rfl h (by decide))
theorem ia_24 {k : Nat} (h : k < 8) : IA 24 (nI k) = True := eq_true (IA.of rfl h (by decide))
theorem ia_25 {k : Nat} (h : k < 8) : IA 25 (nI k) = True := eq_true (IA.of rfl h (by decide))
theorem ia_26 {k : Nat} (h : k < 8) : IA 26 (nI k) = True := eq_true (IA.of rfl h (by decide))
theorem ia_27 {k : Nat} (h : k < 200) : IA 27 (nI k) = True := eq_true (IA.of rfl h (by decide))
theorem ia_28 {k : Nat} (h : k < 201) : IA 28 (nI k) = True := eq_true (IA.of rfl h (by decide))
theorem ia_29 {k : Nat} (h : k < 201) : IA 29 (nI k) = True := eq_true (IA.of rfl h (by decide))
theorem ia_30 {k : Nat} (h : k < 201) : IA 30 (nI k) = True := eq_true (IA.of rfl h (by decide))
theorem ia_33 {k : Nat} (h : k < 4) : IA 33 (nI k) = True := eq_true (IA.of rfl h (by decide))
theorem ia_34 {k : Nat} (h : k < 4) : IA 34 (nI k) = True := eq_true (IA.of rfl h (by decide))
theorem ia_36 {k : Nat} (h : k < 6) : IA 36 (nI k) = True := eq_true (IA.of rfl h (by decide))
theorem ia_37 {k : Nat} (h : k < 6) : IA 37 (nI k) = True := eq_true (IA.of rfl h (by decide))
theorem ia_39 {k : Nat} (h : k < 6) : IA 39 (nI k) = True := eq_true (IA.of rfl h (by decide))
theorem ia_40 {k : Nat} (h : k < 6) : IA 40 (nI k) = True := eq_true (IA.of rfl h (by decide))
theorem ia_42 {k : Nat} (h : k < 6) : IA 42 (nI k) = True := eq_true (IA.of rfl h (by decide))
theorem ia_43 {k : Nat} (h : k < 6) : IA 43 (nI k) = True := eq_true (IA.of rfl h (by decide))
theorem ia_45 {k : Nat} (h : k < 6) : IA 45 (nI k) = True := eq_true (IA.of rfl h (by decide))
theorem ia_46 {k : Nat} (h : k < 6) : IA 46 (nI k) = True := eq_true (IA.of rfl h (by decide))
theorem ia_48 {k : Nat} (h : k < 6) : IA 48 (nI k) = True := eq_true (IA.of rfl h (by decide))
theorem ia_49 {k : Nat} (h : k < 6) : IA 49 (nI k) = True := eq_true (IA.of rfl h (by decide))
theorem ia_51 {k : Nat} (h : k < 4) : IA 51 (nI k) = True := eq_true (IA.of rfl h (by decide))
theorem ia_52 {k : Nat} (h : k < 4) : IA 52 (nI k) = True := eq_true (IA.of rfl h (by decide))
theorem ia_54 {k : Nat} (h : k < 40) : IA 54 (nI k) = True := eq_true (IA.of rfl h (by decide))
theorem ia_55 {k : Nat} (h : k < 40) : IA 55 (nI k) = True := eq_true (IA.of rfl h (by decide))
theorem ia_56 {k : Nat} (h : k < 40) : IA 56 (nI k) = True := eq_true (IA.of rfl h (by decide))
theorem ia_57 {k : Nat} (h : k < 40) : IA 57 (nI k) = True := eq_true (IA.of rfl h (by decide))
theorem ia_58 {k : Nat} (h : k < 4) : IA 58 (nI k) = True := eq_true (IA.of rfl h (by decide))
theorem ia_59 {k : Nat} (h : k < 4) : IA 59 (nI k) = True := eq_true (IA.of rfl h (by decide))
theorem ia_60 {k : Nat} (h : k < 4) : IA 60 (nI k) = True := eq_true (IA.of rfl h (by decide))
theorem ia_62 {k : Nat} (h : k < 30) : IA 62 (nI k) = True := eq_true (IA.of rfl h (by decide))
theorem ia_63 {k : Nat} (h : k < 12) : IA 63 (nI k) = True := eq_true (IA.of rfl h (by decide))
theorem ia_65 {k : Nat} (h : k < 6) : IA 65 (nI k) = True := eq_true (IA.of rfl h (by decide))
theorem ia_66 {k : Nat} (h : k < 6) : IA 66 (nI k) = True := eq_true (IA.of rfl h (by decide))
theorem ia_67 {k : Nat} (h : k < 16) : IA 67 (nI k) = True := eq_true (IA.of rfl h (by decide))
theorem ia_68 {k : Nat} (h : k < 6) : IA 68 (nI k) = True := eq_true (IA.of rfl h (by decide))
theorem ia_69 {k : Nat} (h : k < 6) : IA 69 (nI k) = True := eq_true (IA.of rfl h (by decide))
theorem ia_71 {k : Nat} (h : k < 8) : IA 71 (nI k) = True := eq_true (IA.of rfl h (by decide))
theorem ia_72 {k : Nat} (h : k < 8) : IA 72 (nI k) = True := eq_true (IA.of rfl h (by decide))
theorem ia_73 {k : Nat} (h : k < 8) : IA 73 (nI k) = True := eq_true (IA.of rfl h (by decide))
theorem ia_74 {k : Nat} (h : k < 200) : IA 74 (nI k) = True := eq_true (IA.of rfl h (by decide))
theorem ia_75 {k : Nat} (h : k < 5) : IA 75 (nI k) = True := eq_true (IA.of rfl h (by decide))
theorem ia_77 {k : Nat} (h : k < 6) : IA 77 (nI k) = True := eq_true (IA.of rfl h (by decide))
theorem ia_78 {k : Nat} (h : k < 6) : IA 78 (nI k) = True := eq_true (IA.of rfl h (by decide))
theorem ia_80 {k : Nat} (h : k < 6) : IA 80 (nI k) = True := eq_true (IA.of rfl h (by decide))
theorem ia_81 {k : Nat} (h : k < 6) : IA 81 (nI k) = True := eq_true (IA.of rfl h (by decide))
theorem ia_82 {k : Nat} (h : k < 6) : IA 82 (nI k) = True := eq_true (IA.of rfl h (by decide))
theorem ia_83 {k : Nat} (h : k < 6) : IA 83 (nI k) = True := eq_true (IA.of rfl h (by decide))
theorem ia_85 {k : Nat} (h : k < 361) : IA 85 (nI k) = True := eq_true (IA.of rfl h (by decide))
theorem ia_86 {k : Nat} (h : k < 361) : IA 86 (nI k) = True := eq_true (IA.of rfl h (by decide))
theorem ia_87 {k : Nat} (h : k < 390) : IA 87 (nI k) = True := eq_true (IA.of rfl h (by decide))
theorem ia_88 {k : Nat} (h : k < 240) : IA 88 (nI k) = True := eq_true (IA.of rfl h (by decide))
theorem ia_89 {k : Nat} (h : k < 200) : IA 89 (nI k) = True := eq_true (IA.of rfl h (by decide))
theorem ia_90 {k : Nat} (h : k < 240) : IA 90 (nI k) = True := eq_true (IA.of rfl h (by decide))
theorem ia_91 {k : Nat} (h : k < 32) : IA 91 (nI k) = True := eq_true (IA.of rfl h (by decide))
theorem ia_92 {k : Nat} (h : k < 4) : IA 92 (nI k) = True := eq_true (IA.of rfl h (by decide))
theorem ia_93 {k : Nat} (h : k < 12) : IA 93 (nI k) = True := eq_true (IA.of rfl h (by decide))
theorem ia_94 {k : Nat} (h : k < 4) : IA 94 (nI k) = True := eq_true (IA.of rfl h (by decide))
theorem ia_95 {k : Nat} (h : k < 4) : IA 95 (nI k) = True := eq_true (IA.of rfl h (by decide))
theorem ia_96 {k : Nat} (h : k < 160) : IA 96 (nI k) = True := eq_true (IA.of rfl h (by decide))
theorem ia_97 {k : Nat} (h : k < 4) : IA 97 (nI k) = True := eq_true (IA.of rfl h (by decide))
theorem ia_98 {k : Nat} (h : k < 4) : IA 98 (nI k) = True := eq_true (IA.of rfl h (by decide))
theorem ia_99 {k : Nat} (h : k < 4) : IA 99 (nI k) = True := eq_true (IA.of rfl h (by decide))
theorem ia_100 {k : Nat} (h : k < 30) : IA 100 (nI k) = True := eq_true (IA.of rfl h (by decide))
theorem oj_0 : (sh 0 = (1, 8)) = True := eq_true rfl
theorem oj_1 : (sh 1 = (1, 6)) = True := eq_true rfl
theorem oj_7 : (sh 7 = (1, 5)) = True := eq_true rfl
theorem oj_13 : (sh 13 = (1, 3)) = True := eq_true rfl
theorem oj_16 : (sh 16 = (1, 7)) = True := eq_true rfl
theorem oj_21 : (sh 21 = (1, 4)) = True := eq_true rfl
theorem oj_23 : (sh 23 = (1, 5)) = True := eq_true rfl
theorem oj_31 : (sh 31 = (1, 1)) = True := eq_true rfl
theorem oj_35 : (sh 35 = (1, 3)) = True := eq_true rfl
theorem oj_38 : (sh 38 = (1, 3)) = True := eq_true rfl
theorem oj_41 : (sh 41 = (1, 3)) = True := eq_true rfl
theorem oj_44 : (sh 44 = (1, 3)) = True := eq_true rfl
theorem oj_47 : (sh 47 = (1, 3)) = True := eq_true rfl
theorem oj_50 : (sh 50 = (1, 2)) = True := eq_true rfl
theorem oj_61 : (sh 61 = (1, 0)) = True := eq_true rfl
theorem oj_64 : (sh 64 = (1, 6)) = True := eq_true rfl
theorem oj_70 : (sh 70 = (1, 5)) = True := eq_true rfl
theorem oj_76 : (sh 76 = (1, 3)) = True := eq_true rfl
theorem oj_79 : (sh 79 = (1, 7)) = True := eq_true rfl
theorem oj_84 : (sh 84 = (1, 9)) = True := eq_true rfl
theorem iaT {a k : Nat} (hid : MoId a) (h : k < 6) : IA (a + 1) (nI k) = True := eq_true (IA.of hid.2.1 h (by decide))
theorem iaP {a k : Nat} (hid : MoId a) (h : k < 6) : IA (a + 2) (nI k) = True := eq_true (IA.of hid.2.2 h (by decide))
theorem bI_1 : bI true = nI 1 := rfl
theorem bI_0 : bI false = nI 0 := rfl
theorem pn_not : ∀ P, P < 2048 → nI P ^^^ nI 1 = nI (2 * (P / 2) + (1 - P % 2)) := pl_not
theorem pn_and : ∀ P, P < 2048 → ((nI P).toUInt32 >>> ((nI 1).toUInt32 &&& Int32.toUInt32 (nI 31))).toInt32 &&& ((nI P &&& nI 1) ||| (-nI 2)) = nI (2 * (P / 4) + (P / 2 % 2) * (P % 2)) := pl_and
theorem pn_or : ∀ P, P < 2048 → ((nI P).toUInt32 >>> ((nI 1).toUInt32 &&& Int32.toUInt32 (nI 31))).toInt32 ||| (nI P &&& nI 1) = nI (2 * (P / 4) + (P / 2 % 2 + P % 2 - (P / 2 % 2) * (P % 2))) := pl_or
theorem pn_p1 : ∀ P, P < 1024 → (nI P <<< (nI 1 &&& nI 31)) ||| nI 1 = nI (2 * P + 1) := pl_p1
theorem pn_p0 : ∀ P, P < 1024 → (nI P <<< (nI 1 &&& nI 31)) ||| nI 0 = nI (2 * P + 0) := pl_p0
theorem pn_top : ∀ P, P < 2048 → nI P &&& nI 1 = nI (P % 2) := by decide +kernel
theorem lcm_lt {a b : Nat} (h : a < b) (hb : b < 2147483648) : True := trivial
