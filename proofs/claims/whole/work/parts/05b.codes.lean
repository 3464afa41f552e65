/-! part 05b: the code words of all methods (written by wip/whole/codes.py) -/
theorem in_t1 {w : Jvm.Cond} (h : w ∈ tables_1_1) (hg : goodWord w = true) : w ∈ tbl := List.mem_filter.mpr ⟨List.mem_append_right _ (show w ∈ tables_1 from List.mem_append_left _ h), hg⟩
theorem in_t2 {w : Jvm.Cond} (h : w ∈ tables_1_2) (hg : goodWord w = true) : w ∈ tbl := List.mem_filter.mpr ⟨List.mem_append_right _ (show w ∈ tables_1 from List.mem_append_right _ (List.mem_append_left _ h)), hg⟩
theorem in_t3 {w : Jvm.Cond} (h : w ∈ tables_1_3) (hg : goodWord w = true) : w ∈ tbl := List.mem_filter.mpr ⟨List.mem_append_right _ (show w ∈ tables_1 from List.mem_append_right _ (List.mem_append_right _ (List.mem_append_left _ h))), hg⟩
theorem in_t4 {w : Jvm.Cond} (h : w ∈ tables_1_4) (hg : goodWord w = true) : w ∈ tbl := List.mem_filter.mpr ⟨List.mem_append_right _ (show w ∈ tables_1 from List.mem_append_right _ (List.mem_append_right _ (List.mem_append_right _ (List.mem_append_left _ h)))), hg⟩
theorem in_t5 {w : Jvm.Cond} (h : w ∈ tables_1_5) (hg : goodWord w = true) : w ∈ tbl := List.mem_filter.mpr ⟨List.mem_append_right _ (show w ∈ tables_1 from List.mem_append_right _ (List.mem_append_right _ (List.mem_append_right _ (List.mem_append_right _ (List.mem_append_left _ h))))), hg⟩
theorem in_t6 {w : Jvm.Cond} (h : w ∈ tables_1_6) (hg : goodWord w = true) : w ∈ tbl := List.mem_filter.mpr ⟨List.mem_append_right _ (show w ∈ tables_1 from List.mem_append_right _ (List.mem_append_right _ (List.mem_append_right _ (List.mem_append_right _ (List.mem_append_right _ (List.mem_append_left _ h)))))), hg⟩
theorem in_t7 {w : Jvm.Cond} (h : w ∈ tables_1_7) (hg : goodWord w = true) : w ∈ tbl := List.mem_filter.mpr ⟨List.mem_append_right _ (show w ∈ tables_1 from List.mem_append_right _ (List.mem_append_right _ (List.mem_append_right _ (List.mem_append_right _ (List.mem_append_right _ (List.mem_append_right _ (List.mem_append_left _ h))))))), hg⟩
theorem in_t8 {w : Jvm.Cond} (h : w ∈ tables_1_8) (hg : goodWord w = true) : w ∈ tbl := List.mem_filter.mpr ⟨List.mem_append_right _ (show w ∈ tables_1 from List.mem_append_right _ (List.mem_append_right _ (List.mem_append_right _ (List.mem_append_right _ (List.mem_append_right _ (List.mem_append_right _ (List.mem_append_right _ (h)))))))), hg⟩
theorem in_p {w : Jvm.Cond} (h : w ∈ k2_sels lw_privs) (hg : goodWord w = true) : w ∈ tbl := List.mem_filter.mpr ⟨List.mem_append_left _ h, hg⟩
def mIn (mi : Nat) : Prop := Jvm.Cond.code (mth mi).1 (mth mi).2.1 (mth mi).2.2.1 (mth mi).2.2.2 ∈ tbl
/-- a method's own words: its class is made, its sort -/
def mWd (mi : Nat) : Prop := Jvm.Cond.initialized (mth mi).1.cls ∈ tbl ∧ match (mw mi).1 with
  | 0 => Jvm.Cond.static (mth mi).1 ∈ tbl
  | 1 => Jvm.Cond.instanceMethod (mth mi).1 ∈ tbl ∧ Jvm.Cond.selects (mth mi).1.cls (mth mi).1 (mth mi).1 ∈ tbl
  | _ => True
def mOk (mi : Nat) : Bool :=
  decide ((mth mi).1.cls ≠ "java/lang/invoke/MethodHandle") && decide ((mth mi).1.cls ≠ "java/lang/invoke/VarHandle") && decide ((parseMethodDescriptor (mth mi).1.desc).map (fun d => d.parameters.length) = some (mw mi).2) && decide ((mth mi).2.2.1 ≤ 40) && plainName (mth mi).1.cls
set_option maxRecDepth 100000 in
theorem mc_0 : mIn 0 := in_t1 (List.mem_of_getElem? (i := 23) rfl) rfl
set_option maxRecDepth 100000 in
theorem mv_0 : mWd 0 := ⟨in_t1 (List.mem_of_getElem? (i := 1) rfl) rfl, trivial⟩
theorem mo_0 : mOk 0 = true := by decide +kernel
set_option maxRecDepth 100000 in
theorem mc_1 : mIn 1 := in_t1 (List.mem_of_getElem? (i := 26) rfl) rfl
set_option maxRecDepth 100000 in
theorem mc_2 : mIn 2 := in_t1 (List.mem_of_getElem? (i := 31) rfl) rfl
set_option maxRecDepth 100000 in
theorem mv_2 : mWd 2 := ⟨in_t1 (List.mem_of_getElem? (i := 2) rfl) rfl, trivial⟩
theorem mo_2 : mOk 2 = true := by decide +kernel
set_option maxRecDepth 100000 in
theorem mc_3 : mIn 3 := in_t1 (List.mem_of_getElem? (i := 37) rfl) rfl
set_option maxRecDepth 100000 in
theorem mv_3 : mWd 3 := ⟨in_t1 (List.mem_of_getElem? (i := 3) rfl) rfl, trivial⟩
theorem mo_3 : mOk 3 = true := by decide +kernel
set_option maxRecDepth 100000 in
theorem mc_4 : mIn 4 := in_t1 (List.mem_of_getElem? (i := 104) rfl) rfl
set_option maxRecDepth 100000 in
theorem mv_4 : mWd 4 := ⟨in_t1 (List.mem_of_getElem? (i := 4) rfl) rfl, trivial⟩
theorem mo_4 : mOk 4 = true := by decide +kernel
set_option maxRecDepth 100000 in
theorem mc_5 : mIn 5 := in_t1 (List.mem_of_getElem? (i := 145) rfl) rfl
set_option maxRecDepth 100000 in
theorem mv_5 : mWd 5 := ⟨in_t1 (List.mem_of_getElem? (i := 5) rfl) rfl, trivial⟩
theorem mo_5 : mOk 5 = true := by decide +kernel
set_option maxRecDepth 100000 in
theorem mc_6 : mIn 6 := in_t1 (List.mem_of_getElem? (i := 188) rfl) rfl
set_option maxRecDepth 100000 in
theorem mv_6 : mWd 6 := ⟨in_t1 (List.mem_of_getElem? (i := 6) rfl) rfl, trivial⟩
theorem mo_6 : mOk 6 = true := by decide +kernel
set_option maxRecDepth 100000 in
theorem mc_7 : mIn 7 := in_t1 (List.mem_of_getElem? (i := 227) rfl) rfl
set_option maxRecDepth 100000 in
theorem mv_7 : mWd 7 := ⟨in_t1 (List.mem_of_getElem? (i := 7) rfl) rfl, trivial⟩
theorem mo_7 : mOk 7 = true := by decide +kernel
set_option maxRecDepth 100000 in
theorem mc_8 : mIn 8 := in_t2 (List.mem_of_getElem? (i := 40) rfl) rfl
set_option maxRecDepth 100000 in
theorem mv_8 : mWd 8 := ⟨in_t1 (List.mem_of_getElem? (i := 8) rfl) rfl, trivial⟩
theorem mo_8 : mOk 8 = true := by decide +kernel
set_option maxRecDepth 100000 in
theorem mc_9 : mIn 9 := in_t2 (List.mem_of_getElem? (i := 73) rfl) rfl
set_option maxRecDepth 100000 in
theorem mv_9 : mWd 9 := ⟨in_t1 (List.mem_of_getElem? (i := 9) rfl) rfl, trivial⟩
theorem mo_9 : mOk 9 = true := by decide +kernel
set_option maxRecDepth 100000 in
theorem mc_10 : mIn 10 := in_t2 (List.mem_of_getElem? (i := 139) rfl) rfl
set_option maxRecDepth 100000 in
theorem mv_10 : mWd 10 := ⟨in_t1 (List.mem_of_getElem? (i := 1) rfl) rfl, ⟨in_t2 (List.mem_of_getElem? (i := 137) rfl) rfl, in_t2 (List.mem_of_getElem? (i := 138) rfl) rfl⟩⟩
theorem mo_10 : mOk 10 = true := by decide +kernel
set_option maxRecDepth 100000 in
theorem mc_11 : mIn 11 := in_t2 (List.mem_of_getElem? (i := 142) rfl) rfl
set_option maxRecDepth 100000 in
theorem mv_11 : mWd 11 := ⟨in_t1 (List.mem_of_getElem? (i := 1) rfl) rfl, in_t2 (List.mem_of_getElem? (i := 141) rfl) rfl⟩
theorem mo_11 : mOk 11 = true := by decide +kernel
set_option maxRecDepth 100000 in
theorem mc_12 : mIn 12 := in_t2 (List.mem_of_getElem? (i := 145) rfl) rfl
set_option maxRecDepth 100000 in
theorem mv_12 : mWd 12 := ⟨in_t1 (List.mem_of_getElem? (i := 1) rfl) rfl, in_t2 (List.mem_of_getElem? (i := 144) rfl) rfl⟩
theorem mo_12 : mOk 12 = true := by decide +kernel
set_option maxRecDepth 100000 in
theorem mc_13 : mIn 13 := in_t2 (List.mem_of_getElem? (i := 149) rfl) rfl
set_option maxRecDepth 100000 in
theorem mv_13 : mWd 13 := ⟨in_t1 (List.mem_of_getElem? (i := 1) rfl) rfl, ⟨in_t2 (List.mem_of_getElem? (i := 147) rfl) rfl, in_t2 (List.mem_of_getElem? (i := 148) rfl) rfl⟩⟩
theorem mo_13 : mOk 13 = true := by decide +kernel
set_option maxRecDepth 100000 in
theorem mc_14 : mIn 14 := in_t2 (List.mem_of_getElem? (i := 153) rfl) rfl
set_option maxRecDepth 100000 in
theorem mv_14 : mWd 14 := ⟨in_t1 (List.mem_of_getElem? (i := 1) rfl) rfl, ⟨in_t2 (List.mem_of_getElem? (i := 152) rfl) rfl, in_p (List.mem_of_getElem? (i := 0) rfl) rfl⟩⟩
theorem mo_14 : mOk 14 = true := by decide +kernel
set_option maxRecDepth 100000 in
theorem mc_15 : mIn 15 := in_t2 (List.mem_of_getElem? (i := 157) rfl) rfl
set_option maxRecDepth 100000 in
theorem mv_15 : mWd 15 := ⟨in_t1 (List.mem_of_getElem? (i := 4) rfl) rfl, ⟨in_t2 (List.mem_of_getElem? (i := 155) rfl) rfl, in_t2 (List.mem_of_getElem? (i := 156) rfl) rfl⟩⟩
theorem mo_15 : mOk 15 = true := by decide +kernel
set_option maxRecDepth 100000 in
theorem mc_16 : mIn 16 := in_t2 (List.mem_of_getElem? (i := 161) rfl) rfl
set_option maxRecDepth 100000 in
theorem mv_16 : mWd 16 := ⟨in_t1 (List.mem_of_getElem? (i := 2) rfl) rfl, ⟨in_t2 (List.mem_of_getElem? (i := 159) rfl) rfl, in_t2 (List.mem_of_getElem? (i := 160) rfl) rfl⟩⟩
theorem mo_16 : mOk 16 = true := by decide +kernel
set_option maxRecDepth 100000 in
theorem mc_17 : mIn 17 := in_t2 (List.mem_of_getElem? (i := 165) rfl) rfl
set_option maxRecDepth 100000 in
theorem mv_17 : mWd 17 := ⟨in_t1 (List.mem_of_getElem? (i := 2) rfl) rfl, ⟨in_t2 (List.mem_of_getElem? (i := 163) rfl) rfl, in_t2 (List.mem_of_getElem? (i := 164) rfl) rfl⟩⟩
theorem mo_17 : mOk 17 = true := by decide +kernel
set_option maxRecDepth 100000 in
theorem mc_18 : mIn 18 := in_t2 (List.mem_of_getElem? (i := 168) rfl) rfl
set_option maxRecDepth 100000 in
theorem mv_18 : mWd 18 := ⟨in_t1 (List.mem_of_getElem? (i := 11) rfl) rfl, in_t2 (List.mem_of_getElem? (i := 167) rfl) rfl⟩
theorem mo_18 : mOk 18 = true := by decide +kernel
set_option maxRecDepth 100000 in
theorem mc_19 : mIn 19 := in_t2 (List.mem_of_getElem? (i := 171) rfl) rfl
set_option maxRecDepth 100000 in
theorem mc_20 : mIn 20 := in_t2 (List.mem_of_getElem? (i := 175) rfl) rfl
set_option maxRecDepth 100000 in
theorem mv_20 : mWd 20 := ⟨in_t1 (List.mem_of_getElem? (i := 2) rfl) rfl, ⟨in_t2 (List.mem_of_getElem? (i := 173) rfl) rfl, in_t2 (List.mem_of_getElem? (i := 174) rfl) rfl⟩⟩
theorem mo_20 : mOk 20 = true := by decide +kernel
set_option maxRecDepth 100000 in
theorem mc_21 : mIn 21 := in_t2 (List.mem_of_getElem? (i := 181) rfl) rfl
set_option maxRecDepth 100000 in
theorem mv_21 : mWd 21 := ⟨in_t1 (List.mem_of_getElem? (i := 2) rfl) rfl, ⟨in_t2 (List.mem_of_getElem? (i := 179) rfl) rfl, in_t2 (List.mem_of_getElem? (i := 180) rfl) rfl⟩⟩
theorem mo_21 : mOk 21 = true := by decide +kernel
set_option maxRecDepth 100000 in
theorem mc_22 : mIn 22 := in_t2 (List.mem_of_getElem? (i := 184) rfl) rfl
set_option maxRecDepth 100000 in
theorem mv_22 : mWd 22 := ⟨in_t1 (List.mem_of_getElem? (i := 11) rfl) rfl, in_t2 (List.mem_of_getElem? (i := 183) rfl) rfl⟩
theorem mo_22 : mOk 22 = true := by decide +kernel
set_option maxRecDepth 100000 in
theorem mc_23 : mIn 23 := in_t2 (List.mem_of_getElem? (i := 189) rfl) rfl
set_option maxRecDepth 100000 in
theorem mv_23 : mWd 23 := ⟨in_t1 (List.mem_of_getElem? (i := 2) rfl) rfl, ⟨in_t2 (List.mem_of_getElem? (i := 187) rfl) rfl, in_t2 (List.mem_of_getElem? (i := 188) rfl) rfl⟩⟩
theorem mo_23 : mOk 23 = true := by decide +kernel
set_option maxRecDepth 100000 in
theorem mc_24 : mIn 24 := in_t2 (List.mem_of_getElem? (i := 194) rfl) rfl
set_option maxRecDepth 100000 in
theorem mv_24 : mWd 24 := ⟨in_t1 (List.mem_of_getElem? (i := 2) rfl) rfl, ⟨in_t2 (List.mem_of_getElem? (i := 192) rfl) rfl, in_t2 (List.mem_of_getElem? (i := 193) rfl) rfl⟩⟩
theorem mo_24 : mOk 24 = true := by decide +kernel
set_option maxRecDepth 100000 in
theorem mc_25 : mIn 25 := in_t2 (List.mem_of_getElem? (i := 198) rfl) rfl
set_option maxRecDepth 100000 in
theorem mv_25 : mWd 25 := ⟨in_t1 (List.mem_of_getElem? (i := 3) rfl) rfl, ⟨in_t2 (List.mem_of_getElem? (i := 196) rfl) rfl, in_t2 (List.mem_of_getElem? (i := 197) rfl) rfl⟩⟩
theorem mo_25 : mOk 25 = true := by decide +kernel
set_option maxRecDepth 100000 in
theorem mc_26 : mIn 26 := in_t2 (List.mem_of_getElem? (i := 201) rfl) rfl
set_option maxRecDepth 100000 in
theorem mv_26 : mWd 26 := ⟨in_t1 (List.mem_of_getElem? (i := 11) rfl) rfl, in_t2 (List.mem_of_getElem? (i := 200) rfl) rfl⟩
theorem mo_26 : mOk 26 = true := by decide +kernel
set_option maxRecDepth 100000 in
theorem mc_27 : mIn 27 := in_t2 (List.mem_of_getElem? (i := 205) rfl) rfl
set_option maxRecDepth 100000 in
theorem mv_27 : mWd 27 := ⟨in_t1 (List.mem_of_getElem? (i := 3) rfl) rfl, ⟨in_t2 (List.mem_of_getElem? (i := 204) rfl) rfl, in_p (List.mem_of_getElem? (i := 1) rfl) rfl⟩⟩
theorem mo_27 : mOk 27 = true := by decide +kernel
set_option maxRecDepth 100000 in
theorem mc_28 : mIn 28 := in_t2 (List.mem_of_getElem? (i := 210) rfl) rfl
set_option maxRecDepth 100000 in
theorem mv_28 : mWd 28 := ⟨in_t1 (List.mem_of_getElem? (i := 1) rfl) rfl, ⟨in_t2 (List.mem_of_getElem? (i := 208) rfl) rfl, in_t2 (List.mem_of_getElem? (i := 209) rfl) rfl⟩⟩
theorem mo_28 : mOk 28 = true := by decide +kernel
set_option maxRecDepth 100000 in
theorem mc_29 : mIn 29 := in_t2 (List.mem_of_getElem? (i := 213) rfl) rfl
set_option maxRecDepth 100000 in
theorem mv_29 : mWd 29 := ⟨in_t1 (List.mem_of_getElem? (i := 1) rfl) rfl, in_t2 (List.mem_of_getElem? (i := 212) rfl) rfl⟩
theorem mo_29 : mOk 29 = true := by decide +kernel
set_option maxRecDepth 100000 in
theorem mc_30 : mIn 30 := in_t2 (List.mem_of_getElem? (i := 217) rfl) rfl
set_option maxRecDepth 100000 in
theorem mv_30 : mWd 30 := ⟨in_t1 (List.mem_of_getElem? (i := 1) rfl) rfl, ⟨in_t2 (List.mem_of_getElem? (i := 216) rfl) rfl, in_p (List.mem_of_getElem? (i := 2) rfl) rfl⟩⟩
theorem mo_30 : mOk 30 = true := by decide +kernel
set_option maxRecDepth 100000 in
theorem mc_31 : mIn 31 := in_t2 (List.mem_of_getElem? (i := 221) rfl) rfl
set_option maxRecDepth 100000 in
theorem mv_31 : mWd 31 := ⟨in_t1 (List.mem_of_getElem? (i := 1) rfl) rfl, ⟨in_t2 (List.mem_of_getElem? (i := 219) rfl) rfl, in_t2 (List.mem_of_getElem? (i := 220) rfl) rfl⟩⟩
theorem mo_31 : mOk 31 = true := by decide +kernel
set_option maxRecDepth 100000 in
theorem mc_32 : mIn 32 := in_t2 (List.mem_of_getElem? (i := 225) rfl) rfl
set_option maxRecDepth 100000 in
theorem mv_32 : mWd 32 := ⟨in_t1 (List.mem_of_getElem? (i := 1) rfl) rfl, ⟨in_t2 (List.mem_of_getElem? (i := 223) rfl) rfl, in_t2 (List.mem_of_getElem? (i := 224) rfl) rfl⟩⟩
theorem mo_32 : mOk 32 = true := by decide +kernel
set_option maxRecDepth 100000 in
theorem mc_33 : mIn 33 := in_t2 (List.mem_of_getElem? (i := 229) rfl) rfl
set_option maxRecDepth 100000 in
theorem mv_33 : mWd 33 := ⟨in_t1 (List.mem_of_getElem? (i := 1) rfl) rfl, ⟨in_t2 (List.mem_of_getElem? (i := 227) rfl) rfl, in_t2 (List.mem_of_getElem? (i := 228) rfl) rfl⟩⟩
theorem mo_33 : mOk 33 = true := by decide +kernel
set_option maxRecDepth 100000 in
theorem mc_34 : mIn 34 := in_t2 (List.mem_of_getElem? (i := 233) rfl) rfl
set_option maxRecDepth 100000 in
theorem mv_34 : mWd 34 := ⟨in_t1 (List.mem_of_getElem? (i := 1) rfl) rfl, ⟨in_t2 (List.mem_of_getElem? (i := 231) rfl) rfl, in_t2 (List.mem_of_getElem? (i := 232) rfl) rfl⟩⟩
theorem mo_34 : mOk 34 = true := by decide +kernel
set_option maxRecDepth 100000 in
theorem mc_35 : mIn 35 := in_t2 (List.mem_of_getElem? (i := 237) rfl) rfl
set_option maxRecDepth 100000 in
theorem mv_35 : mWd 35 := ⟨in_t1 (List.mem_of_getElem? (i := 1) rfl) rfl, ⟨in_t2 (List.mem_of_getElem? (i := 235) rfl) rfl, in_t2 (List.mem_of_getElem? (i := 236) rfl) rfl⟩⟩
theorem mo_35 : mOk 35 = true := by decide +kernel
set_option maxRecDepth 100000 in
theorem mc_36 : mIn 36 := in_t3 (List.mem_of_getElem? (i := 1) rfl) rfl
set_option maxRecDepth 100000 in
theorem mv_36 : mWd 36 := ⟨in_t1 (List.mem_of_getElem? (i := 1) rfl) rfl, ⟨in_t2 (List.mem_of_getElem? (i := 239) rfl) rfl, in_t3 (List.mem_of_getElem? (i := 0) rfl) rfl⟩⟩
theorem mo_36 : mOk 36 = true := by decide +kernel
set_option maxRecDepth 100000 in
theorem mc_37 : mIn 37 := in_t3 (List.mem_of_getElem? (i := 5) rfl) rfl
set_option maxRecDepth 100000 in
theorem mv_37 : mWd 37 := ⟨in_t1 (List.mem_of_getElem? (i := 1) rfl) rfl, ⟨in_t3 (List.mem_of_getElem? (i := 3) rfl) rfl, in_t3 (List.mem_of_getElem? (i := 4) rfl) rfl⟩⟩
theorem mo_37 : mOk 37 = true := by decide +kernel
set_option maxRecDepth 100000 in
theorem mc_38 : mIn 38 := in_t3 (List.mem_of_getElem? (i := 9) rfl) rfl
set_option maxRecDepth 100000 in
theorem mv_38 : mWd 38 := ⟨in_t1 (List.mem_of_getElem? (i := 2) rfl) rfl, ⟨in_t3 (List.mem_of_getElem? (i := 7) rfl) rfl, in_t3 (List.mem_of_getElem? (i := 8) rfl) rfl⟩⟩
theorem mo_38 : mOk 38 = true := by decide +kernel
set_option maxRecDepth 100000 in
theorem mc_39 : mIn 39 := in_t3 (List.mem_of_getElem? (i := 13) rfl) rfl
set_option maxRecDepth 100000 in
theorem mv_39 : mWd 39 := ⟨in_t1 (List.mem_of_getElem? (i := 2) rfl) rfl, ⟨in_t3 (List.mem_of_getElem? (i := 11) rfl) rfl, in_t3 (List.mem_of_getElem? (i := 12) rfl) rfl⟩⟩
theorem mo_39 : mOk 39 = true := by decide +kernel
set_option maxRecDepth 100000 in
theorem mc_40 : mIn 40 := in_t3 (List.mem_of_getElem? (i := 17) rfl) rfl
set_option maxRecDepth 100000 in
theorem mv_40 : mWd 40 := ⟨in_t1 (List.mem_of_getElem? (i := 2) rfl) rfl, ⟨in_t3 (List.mem_of_getElem? (i := 15) rfl) rfl, in_t3 (List.mem_of_getElem? (i := 16) rfl) rfl⟩⟩
theorem mo_40 : mOk 40 = true := by decide +kernel
set_option maxRecDepth 100000 in
theorem mc_41 : mIn 41 := in_t3 (List.mem_of_getElem? (i := 21) rfl) rfl
set_option maxRecDepth 100000 in
theorem mv_41 : mWd 41 := ⟨in_t1 (List.mem_of_getElem? (i := 1) rfl) rfl, ⟨in_t3 (List.mem_of_getElem? (i := 19) rfl) rfl, in_t3 (List.mem_of_getElem? (i := 20) rfl) rfl⟩⟩
theorem mo_41 : mOk 41 = true := by decide +kernel
set_option maxRecDepth 100000 in
theorem mc_42 : mIn 42 := in_t3 (List.mem_of_getElem? (i := 25) rfl) rfl
set_option maxRecDepth 100000 in
theorem mv_42 : mWd 42 := ⟨in_t1 (List.mem_of_getElem? (i := 6) rfl) rfl, ⟨in_t3 (List.mem_of_getElem? (i := 23) rfl) rfl, in_t3 (List.mem_of_getElem? (i := 24) rfl) rfl⟩⟩
theorem mo_42 : mOk 42 = true := by decide +kernel
set_option maxRecDepth 100000 in
theorem mc_43 : mIn 43 := in_t3 (List.mem_of_getElem? (i := 29) rfl) rfl
set_option maxRecDepth 100000 in
theorem mv_43 : mWd 43 := ⟨in_t1 (List.mem_of_getElem? (i := 6) rfl) rfl, ⟨in_t3 (List.mem_of_getElem? (i := 27) rfl) rfl, in_t3 (List.mem_of_getElem? (i := 28) rfl) rfl⟩⟩
theorem mo_43 : mOk 43 = true := by decide +kernel
set_option maxRecDepth 100000 in
theorem mc_44 : mIn 44 := in_t3 (List.mem_of_getElem? (i := 34) rfl) rfl
set_option maxRecDepth 100000 in
theorem mv_44 : mWd 44 := ⟨in_t1 (List.mem_of_getElem? (i := 1) rfl) rfl, ⟨in_t3 (List.mem_of_getElem? (i := 32) rfl) rfl, in_t3 (List.mem_of_getElem? (i := 33) rfl) rfl⟩⟩
theorem mo_44 : mOk 44 = true := by decide +kernel
set_option maxRecDepth 100000 in
theorem mc_45 : mIn 45 := in_t3 (List.mem_of_getElem? (i := 38) rfl) rfl
set_option maxRecDepth 100000 in
theorem mv_45 : mWd 45 := ⟨in_t1 (List.mem_of_getElem? (i := 6) rfl) rfl, ⟨in_t3 (List.mem_of_getElem? (i := 36) rfl) rfl, in_t3 (List.mem_of_getElem? (i := 37) rfl) rfl⟩⟩
theorem mo_45 : mOk 45 = true := by decide +kernel
set_option maxRecDepth 100000 in
theorem mc_46 : mIn 46 := in_t3 (List.mem_of_getElem? (i := 42) rfl) rfl
set_option maxRecDepth 100000 in
theorem mv_46 : mWd 46 := ⟨in_t1 (List.mem_of_getElem? (i := 6) rfl) rfl, ⟨in_t3 (List.mem_of_getElem? (i := 41) rfl) rfl, in_p (List.mem_of_getElem? (i := 3) rfl) rfl⟩⟩
theorem mo_46 : mOk 46 = true := by decide +kernel
set_option maxRecDepth 100000 in
theorem mc_47 : mIn 47 := in_t3 (List.mem_of_getElem? (i := 46) rfl) rfl
set_option maxRecDepth 100000 in
theorem mv_47 : mWd 47 := ⟨in_t1 (List.mem_of_getElem? (i := 6) rfl) rfl, ⟨in_t3 (List.mem_of_getElem? (i := 45) rfl) rfl, in_p (List.mem_of_getElem? (i := 4) rfl) rfl⟩⟩
theorem mo_47 : mOk 47 = true := by decide +kernel
set_option maxRecDepth 100000 in
theorem mc_48 : mIn 48 := in_t3 (List.mem_of_getElem? (i := 49) rfl) rfl
set_option maxRecDepth 100000 in
theorem mv_48 : mWd 48 := ⟨in_t1 (List.mem_of_getElem? (i := 6) rfl) rfl, in_t3 (List.mem_of_getElem? (i := 48) rfl) rfl⟩
theorem mo_48 : mOk 48 = true := by decide +kernel
set_option maxRecDepth 100000 in
theorem mc_49 : mIn 49 := in_t3 (List.mem_of_getElem? (i := 52) rfl) rfl
set_option maxRecDepth 100000 in
theorem mv_49 : mWd 49 := ⟨in_t1 (List.mem_of_getElem? (i := 6) rfl) rfl, in_t3 (List.mem_of_getElem? (i := 51) rfl) rfl⟩
theorem mo_49 : mOk 49 = true := by decide +kernel
set_option maxRecDepth 100000 in
theorem mc_50 : mIn 50 := in_t3 (List.mem_of_getElem? (i := 56) rfl) rfl
set_option maxRecDepth 100000 in
theorem mv_50 : mWd 50 := ⟨in_t1 (List.mem_of_getElem? (i := 6) rfl) rfl, ⟨in_t3 (List.mem_of_getElem? (i := 55) rfl) rfl, in_p (List.mem_of_getElem? (i := 5) rfl) rfl⟩⟩
theorem mo_50 : mOk 50 = true := by decide +kernel
set_option maxRecDepth 100000 in
theorem mc_51 : mIn 51 := in_t3 (List.mem_of_getElem? (i := 60) rfl) rfl
set_option maxRecDepth 100000 in
theorem mv_51 : mWd 51 := ⟨in_t1 (List.mem_of_getElem? (i := 6) rfl) rfl, ⟨in_t3 (List.mem_of_getElem? (i := 59) rfl) rfl, in_p (List.mem_of_getElem? (i := 6) rfl) rfl⟩⟩
theorem mo_51 : mOk 51 = true := by decide +kernel
set_option maxRecDepth 100000 in
theorem mc_52 : mIn 52 := in_t3 (List.mem_of_getElem? (i := 65) rfl) rfl
set_option maxRecDepth 100000 in
theorem mv_52 : mWd 52 := ⟨in_t1 (List.mem_of_getElem? (i := 13) rfl) rfl, ⟨in_t3 (List.mem_of_getElem? (i := 63) rfl) rfl, in_t3 (List.mem_of_getElem? (i := 64) rfl) rfl⟩⟩
theorem mo_52 : mOk 52 = true := by decide +kernel
set_option maxRecDepth 100000 in
theorem mc_53 : mIn 53 := in_t3 (List.mem_of_getElem? (i := 69) rfl) rfl
set_option maxRecDepth 100000 in
theorem mv_53 : mWd 53 := ⟨in_t1 (List.mem_of_getElem? (i := 13) rfl) rfl, ⟨in_t3 (List.mem_of_getElem? (i := 67) rfl) rfl, in_t3 (List.mem_of_getElem? (i := 68) rfl) rfl⟩⟩
theorem mo_53 : mOk 53 = true := by decide +kernel
set_option maxRecDepth 100000 in
theorem mc_54 : mIn 54 := in_t3 (List.mem_of_getElem? (i := 75) rfl) rfl
set_option maxRecDepth 100000 in
theorem mv_54 : mWd 54 := ⟨in_t1 (List.mem_of_getElem? (i := 13) rfl) rfl, ⟨in_t3 (List.mem_of_getElem? (i := 73) rfl) rfl, in_t3 (List.mem_of_getElem? (i := 74) rfl) rfl⟩⟩
theorem mo_54 : mOk 54 = true := by decide +kernel
set_option maxRecDepth 100000 in
theorem mc_55 : mIn 55 := in_t3 (List.mem_of_getElem? (i := 79) rfl) rfl
set_option maxRecDepth 100000 in
theorem mv_55 : mWd 55 := ⟨in_t1 (List.mem_of_getElem? (i := 13) rfl) rfl, ⟨in_t3 (List.mem_of_getElem? (i := 77) rfl) rfl, in_t3 (List.mem_of_getElem? (i := 78) rfl) rfl⟩⟩
theorem mo_55 : mOk 55 = true := by decide +kernel
set_option maxRecDepth 100000 in
theorem mc_56 : mIn 56 := in_t3 (List.mem_of_getElem? (i := 82) rfl) rfl
set_option maxRecDepth 100000 in
theorem mv_56 : mWd 56 := ⟨in_t1 (List.mem_of_getElem? (i := 14) rfl) rfl, in_t3 (List.mem_of_getElem? (i := 81) rfl) rfl⟩
theorem mo_56 : mOk 56 = true := by decide +kernel
set_option maxRecDepth 100000 in
theorem mc_57 : mIn 57 := in_t3 (List.mem_of_getElem? (i := 85) rfl) rfl
set_option maxRecDepth 100000 in
theorem mv_57 : mWd 57 := ⟨in_t1 (List.mem_of_getElem? (i := 13) rfl) rfl, in_t3 (List.mem_of_getElem? (i := 84) rfl) rfl⟩
theorem mo_57 : mOk 57 = true := by decide +kernel
set_option maxRecDepth 100000 in
theorem mc_58 : mIn 58 := in_t3 (List.mem_of_getElem? (i := 90) rfl) rfl
set_option maxRecDepth 100000 in
theorem mv_58 : mWd 58 := ⟨in_t1 (List.mem_of_getElem? (i := 15) rfl) rfl, in_t3 (List.mem_of_getElem? (i := 89) rfl) rfl⟩
theorem mo_58 : mOk 58 = true := by decide +kernel
set_option maxRecDepth 100000 in
theorem mc_59 : mIn 59 := in_t3 (List.mem_of_getElem? (i := 93) rfl) rfl
set_option maxRecDepth 100000 in
theorem mv_59 : mWd 59 := ⟨in_t1 (List.mem_of_getElem? (i := 16) rfl) rfl, in_t3 (List.mem_of_getElem? (i := 92) rfl) rfl⟩
theorem mo_59 : mOk 59 = true := by decide +kernel
set_option maxRecDepth 100000 in
theorem mc_60 : mIn 60 := in_t3 (List.mem_of_getElem? (i := 96) rfl) rfl
set_option maxRecDepth 100000 in
theorem mv_60 : mWd 60 := ⟨in_t1 (List.mem_of_getElem? (i := 16) rfl) rfl, in_t3 (List.mem_of_getElem? (i := 95) rfl) rfl⟩
theorem mo_60 : mOk 60 = true := by decide +kernel
set_option maxRecDepth 100000 in
theorem mc_61 : mIn 61 := in_t3 (List.mem_of_getElem? (i := 99) rfl) rfl
set_option maxRecDepth 100000 in
theorem mv_61 : mWd 61 := ⟨in_t1 (List.mem_of_getElem? (i := 16) rfl) rfl, in_t3 (List.mem_of_getElem? (i := 98) rfl) rfl⟩
theorem mo_61 : mOk 61 = true := by decide +kernel
set_option maxRecDepth 100000 in
theorem mc_62 : mIn 62 := in_t3 (List.mem_of_getElem? (i := 103) rfl) rfl
set_option maxRecDepth 100000 in
theorem mv_62 : mWd 62 := ⟨in_t1 (List.mem_of_getElem? (i := 16) rfl) rfl, in_t3 (List.mem_of_getElem? (i := 102) rfl) rfl⟩
theorem mo_62 : mOk 62 = true := by decide +kernel
set_option maxRecDepth 100000 in
theorem mc_63 : mIn 63 := in_t3 (List.mem_of_getElem? (i := 113) rfl) rfl
set_option maxRecDepth 100000 in
theorem mv_63 : mWd 63 := ⟨in_t1 (List.mem_of_getElem? (i := 6) rfl) rfl, ⟨in_t3 (List.mem_of_getElem? (i := 112) rfl) rfl, in_p (List.mem_of_getElem? (i := 7) rfl) rfl⟩⟩
theorem mo_63 : mOk 63 = true := by decide +kernel
set_option maxRecDepth 100000 in
theorem mc_64 : mIn 64 := in_t3 (List.mem_of_getElem? (i := 117) rfl) rfl
set_option maxRecDepth 100000 in
theorem mv_64 : mWd 64 := ⟨in_t1 (List.mem_of_getElem? (i := 6) rfl) rfl, ⟨in_t3 (List.mem_of_getElem? (i := 116) rfl) rfl, in_p (List.mem_of_getElem? (i := 8) rfl) rfl⟩⟩
theorem mo_64 : mOk 64 = true := by decide +kernel
set_option maxRecDepth 100000 in
theorem mc_65 : mIn 65 := in_t3 (List.mem_of_getElem? (i := 121) rfl) rfl
set_option maxRecDepth 100000 in
theorem mv_65 : mWd 65 := ⟨in_t1 (List.mem_of_getElem? (i := 3) rfl) rfl, ⟨in_t3 (List.mem_of_getElem? (i := 119) rfl) rfl, in_t3 (List.mem_of_getElem? (i := 120) rfl) rfl⟩⟩
theorem mo_65 : mOk 65 = true := by decide +kernel
set_option maxRecDepth 100000 in
theorem mc_66 : mIn 66 := in_t3 (List.mem_of_getElem? (i := 125) rfl) rfl
set_option maxRecDepth 100000 in
theorem mv_66 : mWd 66 := ⟨in_t1 (List.mem_of_getElem? (i := 6) rfl) rfl, ⟨in_t3 (List.mem_of_getElem? (i := 124) rfl) rfl, in_p (List.mem_of_getElem? (i := 9) rfl) rfl⟩⟩
theorem mo_66 : mOk 66 = true := by decide +kernel
set_option maxRecDepth 100000 in
theorem mc_67 : mIn 67 := in_t3 (List.mem_of_getElem? (i := 129) rfl) rfl
set_option maxRecDepth 100000 in
theorem mv_67 : mWd 67 := ⟨in_t1 (List.mem_of_getElem? (i := 6) rfl) rfl, ⟨in_t3 (List.mem_of_getElem? (i := 128) rfl) rfl, in_p (List.mem_of_getElem? (i := 10) rfl) rfl⟩⟩
theorem mo_67 : mOk 67 = true := by decide +kernel
set_option maxRecDepth 100000 in
theorem mc_68 : mIn 68 := in_t3 (List.mem_of_getElem? (i := 133) rfl) rfl
set_option maxRecDepth 100000 in
theorem mv_68 : mWd 68 := ⟨in_t1 (List.mem_of_getElem? (i := 6) rfl) rfl, ⟨in_t3 (List.mem_of_getElem? (i := 132) rfl) rfl, in_p (List.mem_of_getElem? (i := 11) rfl) rfl⟩⟩
theorem mo_68 : mOk 68 = true := by decide +kernel
set_option maxRecDepth 100000 in
theorem mc_69 : mIn 69 := in_t3 (List.mem_of_getElem? (i := 137) rfl) rfl
set_option maxRecDepth 100000 in
theorem mv_69 : mWd 69 := ⟨in_t1 (List.mem_of_getElem? (i := 6) rfl) rfl, ⟨in_t3 (List.mem_of_getElem? (i := 136) rfl) rfl, in_p (List.mem_of_getElem? (i := 12) rfl) rfl⟩⟩
theorem mo_69 : mOk 69 = true := by decide +kernel
set_option maxRecDepth 100000 in
theorem mc_70 : mIn 70 := in_t3 (List.mem_of_getElem? (i := 141) rfl) rfl
set_option maxRecDepth 100000 in
theorem mv_70 : mWd 70 := ⟨in_t1 (List.mem_of_getElem? (i := 6) rfl) rfl, ⟨in_t3 (List.mem_of_getElem? (i := 140) rfl) rfl, in_p (List.mem_of_getElem? (i := 13) rfl) rfl⟩⟩
theorem mo_70 : mOk 70 = true := by decide +kernel
set_option maxRecDepth 100000 in
theorem mc_71 : mIn 71 := in_t3 (List.mem_of_getElem? (i := 145) rfl) rfl
set_option maxRecDepth 100000 in
theorem mv_71 : mWd 71 := ⟨in_t1 (List.mem_of_getElem? (i := 6) rfl) rfl, ⟨in_t3 (List.mem_of_getElem? (i := 144) rfl) rfl, in_p (List.mem_of_getElem? (i := 14) rfl) rfl⟩⟩
theorem mo_71 : mOk 71 = true := by decide +kernel
set_option maxRecDepth 100000 in
theorem mc_72 : mIn 72 := in_t3 (List.mem_of_getElem? (i := 149) rfl) rfl
set_option maxRecDepth 100000 in
theorem mv_72 : mWd 72 := ⟨in_t1 (List.mem_of_getElem? (i := 6) rfl) rfl, ⟨in_t3 (List.mem_of_getElem? (i := 148) rfl) rfl, in_p (List.mem_of_getElem? (i := 15) rfl) rfl⟩⟩
theorem mo_72 : mOk 72 = true := by decide +kernel
set_option maxRecDepth 100000 in
theorem mc_73 : mIn 73 := in_t3 (List.mem_of_getElem? (i := 153) rfl) rfl
set_option maxRecDepth 100000 in
theorem mv_73 : mWd 73 := ⟨in_t1 (List.mem_of_getElem? (i := 6) rfl) rfl, ⟨in_t3 (List.mem_of_getElem? (i := 152) rfl) rfl, in_p (List.mem_of_getElem? (i := 16) rfl) rfl⟩⟩
theorem mo_73 : mOk 73 = true := by decide +kernel
set_option maxRecDepth 100000 in
theorem mc_74 : mIn 74 := in_t3 (List.mem_of_getElem? (i := 157) rfl) rfl
set_option maxRecDepth 100000 in
theorem mv_74 : mWd 74 := ⟨in_t1 (List.mem_of_getElem? (i := 6) rfl) rfl, ⟨in_t3 (List.mem_of_getElem? (i := 156) rfl) rfl, in_p (List.mem_of_getElem? (i := 17) rfl) rfl⟩⟩
theorem mo_74 : mOk 74 = true := by decide +kernel
set_option maxRecDepth 100000 in
theorem mc_75 : mIn 75 := in_t3 (List.mem_of_getElem? (i := 161) rfl) rfl
set_option maxRecDepth 100000 in
theorem mv_75 : mWd 75 := ⟨in_t1 (List.mem_of_getElem? (i := 6) rfl) rfl, ⟨in_t3 (List.mem_of_getElem? (i := 160) rfl) rfl, in_p (List.mem_of_getElem? (i := 18) rfl) rfl⟩⟩
theorem mo_75 : mOk 75 = true := by decide +kernel
set_option maxRecDepth 100000 in
theorem mc_76 : mIn 76 := in_t3 (List.mem_of_getElem? (i := 165) rfl) rfl
set_option maxRecDepth 100000 in
theorem mv_76 : mWd 76 := ⟨in_t1 (List.mem_of_getElem? (i := 3) rfl) rfl, ⟨in_t3 (List.mem_of_getElem? (i := 163) rfl) rfl, in_t3 (List.mem_of_getElem? (i := 164) rfl) rfl⟩⟩
theorem mo_76 : mOk 76 = true := by decide +kernel
set_option maxRecDepth 100000 in
theorem mc_77 : mIn 77 := in_t3 (List.mem_of_getElem? (i := 169) rfl) rfl
set_option maxRecDepth 100000 in
theorem mv_77 : mWd 77 := ⟨in_t1 (List.mem_of_getElem? (i := 3) rfl) rfl, ⟨in_t3 (List.mem_of_getElem? (i := 167) rfl) rfl, in_t3 (List.mem_of_getElem? (i := 168) rfl) rfl⟩⟩
theorem mo_77 : mOk 77 = true := by decide +kernel
set_option maxRecDepth 100000 in
theorem mc_78 : mIn 78 := in_t3 (List.mem_of_getElem? (i := 173) rfl) rfl
set_option maxRecDepth 100000 in
theorem mv_78 : mWd 78 := ⟨in_t1 (List.mem_of_getElem? (i := 3) rfl) rfl, ⟨in_t3 (List.mem_of_getElem? (i := 171) rfl) rfl, in_t3 (List.mem_of_getElem? (i := 172) rfl) rfl⟩⟩
theorem mo_78 : mOk 78 = true := by decide +kernel
set_option maxRecDepth 100000 in
theorem mc_79 : mIn 79 := in_t3 (List.mem_of_getElem? (i := 181) rfl) rfl
set_option maxRecDepth 100000 in
theorem mv_79 : mWd 79 := ⟨in_t1 (List.mem_of_getElem? (i := 1) rfl) rfl, ⟨in_t3 (List.mem_of_getElem? (i := 179) rfl) rfl, in_t3 (List.mem_of_getElem? (i := 180) rfl) rfl⟩⟩
theorem mo_79 : mOk 79 = true := by decide +kernel
set_option maxRecDepth 100000 in
theorem mc_80 : mIn 80 := in_t3 (List.mem_of_getElem? (i := 185) rfl) rfl
set_option maxRecDepth 100000 in
theorem mv_80 : mWd 80 := ⟨in_t1 (List.mem_of_getElem? (i := 2) rfl) rfl, ⟨in_t3 (List.mem_of_getElem? (i := 183) rfl) rfl, in_t3 (List.mem_of_getElem? (i := 184) rfl) rfl⟩⟩
theorem mo_80 : mOk 80 = true := by decide +kernel
set_option maxRecDepth 100000 in
theorem mc_81 : mIn 81 := in_t3 (List.mem_of_getElem? (i := 190) rfl) rfl
set_option maxRecDepth 100000 in
theorem mv_81 : mWd 81 := ⟨in_t1 (List.mem_of_getElem? (i := 2) rfl) rfl, ⟨in_t3 (List.mem_of_getElem? (i := 188) rfl) rfl, in_t3 (List.mem_of_getElem? (i := 189) rfl) rfl⟩⟩
theorem mo_81 : mOk 81 = true := by decide +kernel
set_option maxRecDepth 100000 in
theorem mc_82 : mIn 82 := in_t3 (List.mem_of_getElem? (i := 194) rfl) rfl
set_option maxRecDepth 100000 in
theorem mv_82 : mWd 82 := ⟨in_t1 (List.mem_of_getElem? (i := 2) rfl) rfl, ⟨in_t3 (List.mem_of_getElem? (i := 193) rfl) rfl, in_p (List.mem_of_getElem? (i := 19) rfl) rfl⟩⟩
theorem mo_82 : mOk 82 = true := by decide +kernel
set_option maxRecDepth 100000 in
theorem mc_83 : mIn 83 := in_t3 (List.mem_of_getElem? (i := 197) rfl) rfl
set_option maxRecDepth 100000 in
theorem mc_84 : mIn 84 := in_t3 (List.mem_of_getElem? (i := 201) rfl) rfl
set_option maxRecDepth 100000 in
theorem mv_84 : mWd 84 := ⟨in_t1 (List.mem_of_getElem? (i := 2) rfl) rfl, ⟨in_t3 (List.mem_of_getElem? (i := 200) rfl) rfl, in_p (List.mem_of_getElem? (i := 20) rfl) rfl⟩⟩
theorem mo_84 : mOk 84 = true := by decide +kernel
set_option maxRecDepth 100000 in
theorem mc_85 : mIn 85 := in_t3 (List.mem_of_getElem? (i := 207) rfl) rfl
set_option maxRecDepth 100000 in
theorem mv_85 : mWd 85 := ⟨in_t1 (List.mem_of_getElem? (i := 1) rfl) rfl, ⟨in_t3 (List.mem_of_getElem? (i := 205) rfl) rfl, in_t3 (List.mem_of_getElem? (i := 206) rfl) rfl⟩⟩
theorem mo_85 : mOk 85 = true := by decide +kernel
set_option maxRecDepth 100000 in
theorem mc_86 : mIn 86 := in_t3 (List.mem_of_getElem? (i := 211) rfl) rfl
set_option maxRecDepth 100000 in
theorem mv_86 : mWd 86 := ⟨in_t1 (List.mem_of_getElem? (i := 7) rfl) rfl, ⟨in_t3 (List.mem_of_getElem? (i := 209) rfl) rfl, in_t3 (List.mem_of_getElem? (i := 210) rfl) rfl⟩⟩
theorem mo_86 : mOk 86 = true := by decide +kernel
set_option maxRecDepth 100000 in
theorem mc_87 : mIn 87 := in_t3 (List.mem_of_getElem? (i := 215) rfl) rfl
set_option maxRecDepth 100000 in
theorem mv_87 : mWd 87 := ⟨in_t1 (List.mem_of_getElem? (i := 7) rfl) rfl, ⟨in_t3 (List.mem_of_getElem? (i := 214) rfl) rfl, in_p (List.mem_of_getElem? (i := 21) rfl) rfl⟩⟩
theorem mo_87 : mOk 87 = true := by decide +kernel
set_option maxRecDepth 100000 in
theorem mc_88 : mIn 88 := in_t3 (List.mem_of_getElem? (i := 219) rfl) rfl
set_option maxRecDepth 100000 in
theorem mv_88 : mWd 88 := ⟨in_t1 (List.mem_of_getElem? (i := 4) rfl) rfl, ⟨in_t3 (List.mem_of_getElem? (i := 217) rfl) rfl, in_t3 (List.mem_of_getElem? (i := 218) rfl) rfl⟩⟩
theorem mo_88 : mOk 88 = true := by decide +kernel
set_option maxRecDepth 100000 in
theorem mc_89 : mIn 89 := in_t3 (List.mem_of_getElem? (i := 227) rfl) rfl
set_option maxRecDepth 100000 in
theorem mv_89 : mWd 89 := ⟨in_t1 (List.mem_of_getElem? (i := 1) rfl) rfl, ⟨in_t3 (List.mem_of_getElem? (i := 225) rfl) rfl, in_t3 (List.mem_of_getElem? (i := 226) rfl) rfl⟩⟩
theorem mo_89 : mOk 89 = true := by decide +kernel
set_option maxRecDepth 100000 in
theorem mc_90 : mIn 90 := in_t3 (List.mem_of_getElem? (i := 231) rfl) rfl
set_option maxRecDepth 100000 in
theorem mv_90 : mWd 90 := ⟨in_t1 (List.mem_of_getElem? (i := 7) rfl) rfl, ⟨in_t3 (List.mem_of_getElem? (i := 229) rfl) rfl, in_t3 (List.mem_of_getElem? (i := 230) rfl) rfl⟩⟩
theorem mo_90 : mOk 90 = true := by decide +kernel
set_option maxRecDepth 100000 in
theorem mc_91 : mIn 91 := in_t3 (List.mem_of_getElem? (i := 236) rfl) rfl
set_option maxRecDepth 100000 in
theorem mv_91 : mWd 91 := ⟨in_t1 (List.mem_of_getElem? (i := 1) rfl) rfl, ⟨in_t3 (List.mem_of_getElem? (i := 234) rfl) rfl, in_t3 (List.mem_of_getElem? (i := 235) rfl) rfl⟩⟩
theorem mo_91 : mOk 91 = true := by decide +kernel
set_option maxRecDepth 100000 in
theorem mc_92 : mIn 92 := in_t4 (List.mem_of_getElem? (i := 0) rfl) rfl
set_option maxRecDepth 100000 in
theorem mv_92 : mWd 92 := ⟨in_t1 (List.mem_of_getElem? (i := 1) rfl) rfl, ⟨in_t3 (List.mem_of_getElem? (i := 239) rfl) rfl, in_p (List.mem_of_getElem? (i := 22) rfl) rfl⟩⟩
theorem mo_92 : mOk 92 = true := by decide +kernel
set_option maxRecDepth 100000 in
theorem mc_93 : mIn 93 := in_t4 (List.mem_of_getElem? (i := 4) rfl) rfl
set_option maxRecDepth 100000 in
theorem mv_93 : mWd 93 := ⟨in_t1 (List.mem_of_getElem? (i := 1) rfl) rfl, ⟨in_t4 (List.mem_of_getElem? (i := 2) rfl) rfl, in_t4 (List.mem_of_getElem? (i := 3) rfl) rfl⟩⟩
theorem mo_93 : mOk 93 = true := by decide +kernel
set_option maxRecDepth 100000 in
theorem mc_94 : mIn 94 := in_t4 (List.mem_of_getElem? (i := 8) rfl) rfl
set_option maxRecDepth 100000 in
theorem mv_94 : mWd 94 := ⟨in_t1 (List.mem_of_getElem? (i := 1) rfl) rfl, ⟨in_t4 (List.mem_of_getElem? (i := 6) rfl) rfl, in_t4 (List.mem_of_getElem? (i := 7) rfl) rfl⟩⟩
theorem mo_94 : mOk 94 = true := by decide +kernel
set_option maxRecDepth 100000 in
theorem mc_95 : mIn 95 := in_t4 (List.mem_of_getElem? (i := 12) rfl) rfl
set_option maxRecDepth 100000 in
theorem mv_95 : mWd 95 := ⟨in_t1 (List.mem_of_getElem? (i := 7) rfl) rfl, ⟨in_t4 (List.mem_of_getElem? (i := 10) rfl) rfl, in_t4 (List.mem_of_getElem? (i := 11) rfl) rfl⟩⟩
theorem mo_95 : mOk 95 = true := by decide +kernel
set_option maxRecDepth 100000 in
theorem mc_96 : mIn 96 := in_t4 (List.mem_of_getElem? (i := 17) rfl) rfl
set_option maxRecDepth 100000 in
theorem mv_96 : mWd 96 := ⟨in_t1 (List.mem_of_getElem? (i := 1) rfl) rfl, ⟨in_t4 (List.mem_of_getElem? (i := 15) rfl) rfl, in_t4 (List.mem_of_getElem? (i := 16) rfl) rfl⟩⟩
theorem mo_96 : mOk 96 = true := by decide +kernel
set_option maxRecDepth 100000 in
theorem mc_97 : mIn 97 := in_t4 (List.mem_of_getElem? (i := 21) rfl) rfl
set_option maxRecDepth 100000 in
theorem mv_97 : mWd 97 := ⟨in_t1 (List.mem_of_getElem? (i := 2) rfl) rfl, ⟨in_t4 (List.mem_of_getElem? (i := 19) rfl) rfl, in_t4 (List.mem_of_getElem? (i := 20) rfl) rfl⟩⟩
theorem mo_97 : mOk 97 = true := by decide +kernel
set_option maxRecDepth 100000 in
theorem mc_98 : mIn 98 := in_t4 (List.mem_of_getElem? (i := 25) rfl) rfl
set_option maxRecDepth 100000 in
theorem mv_98 : mWd 98 := ⟨in_t1 (List.mem_of_getElem? (i := 1) rfl) rfl, ⟨in_t4 (List.mem_of_getElem? (i := 23) rfl) rfl, in_t4 (List.mem_of_getElem? (i := 24) rfl) rfl⟩⟩
theorem mo_98 : mOk 98 = true := by decide +kernel
set_option maxRecDepth 100000 in
theorem mc_99 : mIn 99 := in_t4 (List.mem_of_getElem? (i := 29) rfl) rfl
set_option maxRecDepth 100000 in
theorem mv_99 : mWd 99 := ⟨in_t1 (List.mem_of_getElem? (i := 1) rfl) rfl, ⟨in_t4 (List.mem_of_getElem? (i := 28) rfl) rfl, in_p (List.mem_of_getElem? (i := 23) rfl) rfl⟩⟩
theorem mo_99 : mOk 99 = true := by decide +kernel
set_option maxRecDepth 100000 in
theorem mc_100 : mIn 100 := in_t4 (List.mem_of_getElem? (i := 33) rfl) rfl
set_option maxRecDepth 100000 in
theorem mv_100 : mWd 100 := ⟨in_t1 (List.mem_of_getElem? (i := 1) rfl) rfl, ⟨in_t4 (List.mem_of_getElem? (i := 32) rfl) rfl, in_p (List.mem_of_getElem? (i := 24) rfl) rfl⟩⟩
theorem mo_100 : mOk 100 = true := by decide +kernel
set_option maxRecDepth 100000 in
theorem mc_101 : mIn 101 := in_t4 (List.mem_of_getElem? (i := 37) rfl) rfl
set_option maxRecDepth 100000 in
theorem mv_101 : mWd 101 := ⟨in_t1 (List.mem_of_getElem? (i := 1) rfl) rfl, ⟨in_t4 (List.mem_of_getElem? (i := 36) rfl) rfl, in_p (List.mem_of_getElem? (i := 25) rfl) rfl⟩⟩
theorem mo_101 : mOk 101 = true := by decide +kernel
set_option maxRecDepth 100000 in
theorem mc_102 : mIn 102 := in_t4 (List.mem_of_getElem? (i := 41) rfl) rfl
set_option maxRecDepth 100000 in
theorem mv_102 : mWd 102 := ⟨in_t1 (List.mem_of_getElem? (i := 2) rfl) rfl, ⟨in_t4 (List.mem_of_getElem? (i := 39) rfl) rfl, in_t4 (List.mem_of_getElem? (i := 40) rfl) rfl⟩⟩
theorem mo_102 : mOk 102 = true := by decide +kernel
set_option maxRecDepth 100000 in
theorem mc_103 : mIn 103 := in_t4 (List.mem_of_getElem? (i := 44) rfl) rfl
set_option maxRecDepth 100000 in
theorem mc_104 : mIn 104 := in_t4 (List.mem_of_getElem? (i := 48) rfl) rfl
set_option maxRecDepth 100000 in
theorem mv_104 : mWd 104 := ⟨in_t1 (List.mem_of_getElem? (i := 1) rfl) rfl, ⟨in_t4 (List.mem_of_getElem? (i := 46) rfl) rfl, in_t4 (List.mem_of_getElem? (i := 47) rfl) rfl⟩⟩
theorem mo_104 : mOk 104 = true := by decide +kernel
set_option maxRecDepth 100000 in
theorem mc_105 : mIn 105 := in_t4 (List.mem_of_getElem? (i := 51) rfl) rfl
set_option maxRecDepth 100000 in
theorem mv_105 : mWd 105 := ⟨in_t1 (List.mem_of_getElem? (i := 18) rfl) rfl, in_t4 (List.mem_of_getElem? (i := 50) rfl) rfl⟩
theorem mo_105 : mOk 105 = true := by decide +kernel
set_option maxRecDepth 100000 in
theorem mc_106 : mIn 106 := in_t4 (List.mem_of_getElem? (i := 58) rfl) rfl
set_option maxRecDepth 100000 in
theorem mv_106 : mWd 106 := ⟨in_t1 (List.mem_of_getElem? (i := 2) rfl) rfl, ⟨in_t4 (List.mem_of_getElem? (i := 56) rfl) rfl, in_t4 (List.mem_of_getElem? (i := 57) rfl) rfl⟩⟩
theorem mo_106 : mOk 106 = true := by decide +kernel
set_option maxRecDepth 100000 in
theorem mc_107 : mIn 107 := in_t4 (List.mem_of_getElem? (i := 62) rfl) rfl
set_option maxRecDepth 100000 in
theorem mv_107 : mWd 107 := ⟨in_t1 (List.mem_of_getElem? (i := 1) rfl) rfl, ⟨in_t4 (List.mem_of_getElem? (i := 60) rfl) rfl, in_t4 (List.mem_of_getElem? (i := 61) rfl) rfl⟩⟩
theorem mo_107 : mOk 107 = true := by decide +kernel
set_option maxRecDepth 100000 in
theorem mc_108 : mIn 108 := in_t4 (List.mem_of_getElem? (i := 65) rfl) rfl
set_option maxRecDepth 100000 in
theorem mv_108 : mWd 108 := ⟨in_t1 (List.mem_of_getElem? (i := 1) rfl) rfl, in_t4 (List.mem_of_getElem? (i := 64) rfl) rfl⟩
theorem mo_108 : mOk 108 = true := by decide +kernel
set_option maxRecDepth 100000 in
theorem mc_109 : mIn 109 := in_t4 (List.mem_of_getElem? (i := 69) rfl) rfl
set_option maxRecDepth 100000 in
theorem mv_109 : mWd 109 := ⟨in_t1 (List.mem_of_getElem? (i := 7) rfl) rfl, ⟨in_t4 (List.mem_of_getElem? (i := 67) rfl) rfl, in_t4 (List.mem_of_getElem? (i := 68) rfl) rfl⟩⟩
theorem mo_109 : mOk 109 = true := by decide +kernel
set_option maxRecDepth 100000 in
theorem mc_110 : mIn 110 := in_t4 (List.mem_of_getElem? (i := 73) rfl) rfl
set_option maxRecDepth 100000 in
theorem mv_110 : mWd 110 := ⟨in_t1 (List.mem_of_getElem? (i := 7) rfl) rfl, ⟨in_t4 (List.mem_of_getElem? (i := 72) rfl) rfl, in_p (List.mem_of_getElem? (i := 26) rfl) rfl⟩⟩
theorem mo_110 : mOk 110 = true := by decide +kernel
set_option maxRecDepth 100000 in
theorem mc_111 : mIn 111 := in_t4 (List.mem_of_getElem? (i := 79) rfl) rfl
set_option maxRecDepth 100000 in
theorem mv_111 : mWd 111 := ⟨in_t1 (List.mem_of_getElem? (i := 7) rfl) rfl, ⟨in_t4 (List.mem_of_getElem? (i := 78) rfl) rfl, in_p (List.mem_of_getElem? (i := 27) rfl) rfl⟩⟩
theorem mo_111 : mOk 111 = true := by decide +kernel
set_option maxRecDepth 100000 in
theorem mc_112 : mIn 112 := in_t4 (List.mem_of_getElem? (i := 83) rfl) rfl
set_option maxRecDepth 100000 in
theorem mv_112 : mWd 112 := ⟨in_t1 (List.mem_of_getElem? (i := 7) rfl) rfl, ⟨in_t4 (List.mem_of_getElem? (i := 82) rfl) rfl, in_p (List.mem_of_getElem? (i := 28) rfl) rfl⟩⟩
theorem mo_112 : mOk 112 = true := by decide +kernel
set_option maxRecDepth 100000 in
theorem mc_113 : mIn 113 := in_t4 (List.mem_of_getElem? (i := 88) rfl) rfl
set_option maxRecDepth 100000 in
theorem mv_113 : mWd 113 := ⟨in_t1 (List.mem_of_getElem? (i := 1) rfl) rfl, ⟨in_t4 (List.mem_of_getElem? (i := 86) rfl) rfl, in_t4 (List.mem_of_getElem? (i := 87) rfl) rfl⟩⟩
theorem mo_113 : mOk 113 = true := by decide +kernel
set_option maxRecDepth 100000 in
theorem mc_114 : mIn 114 := in_t4 (List.mem_of_getElem? (i := 92) rfl) rfl
set_option maxRecDepth 100000 in
theorem mv_114 : mWd 114 := ⟨in_t1 (List.mem_of_getElem? (i := 1) rfl) rfl, ⟨in_t4 (List.mem_of_getElem? (i := 90) rfl) rfl, in_t4 (List.mem_of_getElem? (i := 91) rfl) rfl⟩⟩
theorem mo_114 : mOk 114 = true := by decide +kernel
set_option maxRecDepth 100000 in
theorem mc_115 : mIn 115 := in_t4 (List.mem_of_getElem? (i := 96) rfl) rfl
set_option maxRecDepth 100000 in
theorem mv_115 : mWd 115 := ⟨in_t1 (List.mem_of_getElem? (i := 1) rfl) rfl, ⟨in_t4 (List.mem_of_getElem? (i := 94) rfl) rfl, in_t4 (List.mem_of_getElem? (i := 95) rfl) rfl⟩⟩
theorem mo_115 : mOk 115 = true := by decide +kernel
set_option maxRecDepth 100000 in
theorem mc_116 : mIn 116 := in_t4 (List.mem_of_getElem? (i := 100) rfl) rfl
set_option maxRecDepth 100000 in
theorem mv_116 : mWd 116 := ⟨in_t1 (List.mem_of_getElem? (i := 1) rfl) rfl, ⟨in_t4 (List.mem_of_getElem? (i := 99) rfl) rfl, in_p (List.mem_of_getElem? (i := 29) rfl) rfl⟩⟩
theorem mo_116 : mOk 116 = true := by decide +kernel
set_option maxRecDepth 100000 in
theorem mc_117 : mIn 117 := in_t4 (List.mem_of_getElem? (i := 104) rfl) rfl
set_option maxRecDepth 100000 in
theorem mv_117 : mWd 117 := ⟨in_t1 (List.mem_of_getElem? (i := 1) rfl) rfl, ⟨in_t4 (List.mem_of_getElem? (i := 102) rfl) rfl, in_t4 (List.mem_of_getElem? (i := 103) rfl) rfl⟩⟩
theorem mo_117 : mOk 117 = true := by decide +kernel
set_option maxRecDepth 100000 in
theorem mc_118 : mIn 118 := in_t4 (List.mem_of_getElem? (i := 107) rfl) rfl
set_option maxRecDepth 100000 in
theorem mv_118 : mWd 118 := ⟨in_t1 (List.mem_of_getElem? (i := 1) rfl) rfl, in_t4 (List.mem_of_getElem? (i := 106) rfl) rfl⟩
theorem mo_118 : mOk 118 = true := by decide +kernel
set_option maxRecDepth 100000 in
theorem mc_119 : mIn 119 := in_t4 (List.mem_of_getElem? (i := 111) rfl) rfl
set_option maxRecDepth 100000 in
theorem mv_119 : mWd 119 := ⟨in_t1 (List.mem_of_getElem? (i := 1) rfl) rfl, ⟨in_t4 (List.mem_of_getElem? (i := 109) rfl) rfl, in_t4 (List.mem_of_getElem? (i := 110) rfl) rfl⟩⟩
theorem mo_119 : mOk 119 = true := by decide +kernel
set_option maxRecDepth 100000 in
theorem mc_120 : mIn 120 := in_t4 (List.mem_of_getElem? (i := 115) rfl) rfl
set_option maxRecDepth 100000 in
theorem mv_120 : mWd 120 := ⟨in_t1 (List.mem_of_getElem? (i := 7) rfl) rfl, ⟨in_t4 (List.mem_of_getElem? (i := 113) rfl) rfl, in_t4 (List.mem_of_getElem? (i := 114) rfl) rfl⟩⟩
theorem mo_120 : mOk 120 = true := by decide +kernel
set_option maxRecDepth 100000 in
theorem mc_121 : mIn 121 := in_t4 (List.mem_of_getElem? (i := 119) rfl) rfl
set_option maxRecDepth 100000 in
theorem mv_121 : mWd 121 := ⟨in_t1 (List.mem_of_getElem? (i := 7) rfl) rfl, ⟨in_t4 (List.mem_of_getElem? (i := 118) rfl) rfl, in_p (List.mem_of_getElem? (i := 30) rfl) rfl⟩⟩
theorem mo_121 : mOk 121 = true := by decide +kernel
set_option maxRecDepth 100000 in
theorem mc_122 : mIn 122 := in_t4 (List.mem_of_getElem? (i := 123) rfl) rfl
set_option maxRecDepth 100000 in
theorem mv_122 : mWd 122 := ⟨in_t1 (List.mem_of_getElem? (i := 1) rfl) rfl, ⟨in_t4 (List.mem_of_getElem? (i := 121) rfl) rfl, in_t4 (List.mem_of_getElem? (i := 122) rfl) rfl⟩⟩
theorem mo_122 : mOk 122 = true := by decide +kernel
set_option maxRecDepth 100000 in
theorem mc_123 : mIn 123 := in_t4 (List.mem_of_getElem? (i := 127) rfl) rfl
set_option maxRecDepth 100000 in
theorem mv_123 : mWd 123 := ⟨in_t1 (List.mem_of_getElem? (i := 1) rfl) rfl, ⟨in_t4 (List.mem_of_getElem? (i := 125) rfl) rfl, in_t4 (List.mem_of_getElem? (i := 126) rfl) rfl⟩⟩
theorem mo_123 : mOk 123 = true := by decide +kernel
set_option maxRecDepth 100000 in
theorem mc_124 : mIn 124 := in_t4 (List.mem_of_getElem? (i := 131) rfl) rfl
set_option maxRecDepth 100000 in
theorem mv_124 : mWd 124 := ⟨in_t1 (List.mem_of_getElem? (i := 5) rfl) rfl, ⟨in_t4 (List.mem_of_getElem? (i := 129) rfl) rfl, in_t4 (List.mem_of_getElem? (i := 130) rfl) rfl⟩⟩
theorem mo_124 : mOk 124 = true := by decide +kernel
set_option maxRecDepth 100000 in
theorem mc_125 : mIn 125 := in_t4 (List.mem_of_getElem? (i := 135) rfl) rfl
set_option maxRecDepth 100000 in
theorem mv_125 : mWd 125 := ⟨in_t1 (List.mem_of_getElem? (i := 1) rfl) rfl, ⟨in_t4 (List.mem_of_getElem? (i := 133) rfl) rfl, in_t4 (List.mem_of_getElem? (i := 134) rfl) rfl⟩⟩
theorem mo_125 : mOk 125 = true := by decide +kernel
set_option maxRecDepth 100000 in
theorem mc_126 : mIn 126 := in_t4 (List.mem_of_getElem? (i := 139) rfl) rfl
set_option maxRecDepth 100000 in
theorem mv_126 : mWd 126 := ⟨in_t1 (List.mem_of_getElem? (i := 1) rfl) rfl, ⟨in_t4 (List.mem_of_getElem? (i := 137) rfl) rfl, in_t4 (List.mem_of_getElem? (i := 138) rfl) rfl⟩⟩
theorem mo_126 : mOk 126 = true := by decide +kernel
set_option maxRecDepth 100000 in
theorem mc_127 : mIn 127 := in_t4 (List.mem_of_getElem? (i := 143) rfl) rfl
set_option maxRecDepth 100000 in
theorem mv_127 : mWd 127 := ⟨in_t1 (List.mem_of_getElem? (i := 5) rfl) rfl, ⟨in_t4 (List.mem_of_getElem? (i := 141) rfl) rfl, in_t4 (List.mem_of_getElem? (i := 142) rfl) rfl⟩⟩
theorem mo_127 : mOk 127 = true := by decide +kernel
set_option maxRecDepth 100000 in
theorem mc_128 : mIn 128 := in_t4 (List.mem_of_getElem? (i := 147) rfl) rfl
set_option maxRecDepth 100000 in
theorem mv_128 : mWd 128 := ⟨in_t1 (List.mem_of_getElem? (i := 5) rfl) rfl, ⟨in_t4 (List.mem_of_getElem? (i := 146) rfl) rfl, in_p (List.mem_of_getElem? (i := 31) rfl) rfl⟩⟩
theorem mo_128 : mOk 128 = true := by decide +kernel
set_option maxRecDepth 100000 in
theorem mc_129 : mIn 129 := in_t4 (List.mem_of_getElem? (i := 152) rfl) rfl
set_option maxRecDepth 100000 in
theorem mv_129 : mWd 129 := ⟨in_t1 (List.mem_of_getElem? (i := 5) rfl) rfl, ⟨in_t4 (List.mem_of_getElem? (i := 151) rfl) rfl, in_p (List.mem_of_getElem? (i := 32) rfl) rfl⟩⟩
theorem mo_129 : mOk 129 = true := by decide +kernel
set_option maxRecDepth 100000 in
theorem mc_130 : mIn 130 := in_t4 (List.mem_of_getElem? (i := 156) rfl) rfl
set_option maxRecDepth 100000 in
theorem mv_130 : mWd 130 := ⟨in_t1 (List.mem_of_getElem? (i := 5) rfl) rfl, ⟨in_t4 (List.mem_of_getElem? (i := 155) rfl) rfl, in_p (List.mem_of_getElem? (i := 33) rfl) rfl⟩⟩
theorem mo_130 : mOk 130 = true := by decide +kernel
set_option maxRecDepth 100000 in
theorem mc_131 : mIn 131 := in_t4 (List.mem_of_getElem? (i := 164) rfl) rfl
set_option maxRecDepth 100000 in
theorem mv_131 : mWd 131 := ⟨in_t1 (List.mem_of_getElem? (i := 5) rfl) rfl, ⟨in_t4 (List.mem_of_getElem? (i := 163) rfl) rfl, in_p (List.mem_of_getElem? (i := 34) rfl) rfl⟩⟩
theorem mo_131 : mOk 131 = true := by decide +kernel
set_option maxRecDepth 100000 in
theorem mc_132 : mIn 132 := in_t4 (List.mem_of_getElem? (i := 169) rfl) rfl
set_option maxRecDepth 100000 in
theorem mv_132 : mWd 132 := ⟨in_t1 (List.mem_of_getElem? (i := 1) rfl) rfl, ⟨in_t4 (List.mem_of_getElem? (i := 167) rfl) rfl, in_t4 (List.mem_of_getElem? (i := 168) rfl) rfl⟩⟩
theorem mo_132 : mOk 132 = true := by decide +kernel
set_option maxRecDepth 100000 in
theorem mc_133 : mIn 133 := in_t4 (List.mem_of_getElem? (i := 173) rfl) rfl
set_option maxRecDepth 100000 in
theorem mv_133 : mWd 133 := ⟨in_t1 (List.mem_of_getElem? (i := 1) rfl) rfl, ⟨in_t4 (List.mem_of_getElem? (i := 171) rfl) rfl, in_t4 (List.mem_of_getElem? (i := 172) rfl) rfl⟩⟩
theorem mo_133 : mOk 133 = true := by decide +kernel
set_option maxRecDepth 100000 in
theorem mc_134 : mIn 134 := in_t4 (List.mem_of_getElem? (i := 177) rfl) rfl
set_option maxRecDepth 100000 in
theorem mv_134 : mWd 134 := ⟨in_t1 (List.mem_of_getElem? (i := 1) rfl) rfl, ⟨in_t4 (List.mem_of_getElem? (i := 175) rfl) rfl, in_t4 (List.mem_of_getElem? (i := 176) rfl) rfl⟩⟩
theorem mo_134 : mOk 134 = true := by decide +kernel
set_option maxRecDepth 100000 in
theorem mc_135 : mIn 135 := in_t4 (List.mem_of_getElem? (i := 181) rfl) rfl
set_option maxRecDepth 100000 in
theorem mv_135 : mWd 135 := ⟨in_t1 (List.mem_of_getElem? (i := 2) rfl) rfl, ⟨in_t4 (List.mem_of_getElem? (i := 179) rfl) rfl, in_t4 (List.mem_of_getElem? (i := 180) rfl) rfl⟩⟩
theorem mo_135 : mOk 135 = true := by decide +kernel
set_option maxRecDepth 100000 in
theorem mc_136 : mIn 136 := in_t4 (List.mem_of_getElem? (i := 187) rfl) rfl
set_option maxRecDepth 100000 in
theorem mv_136 : mWd 136 := ⟨in_t1 (List.mem_of_getElem? (i := 1) rfl) rfl, ⟨in_t4 (List.mem_of_getElem? (i := 185) rfl) rfl, in_t4 (List.mem_of_getElem? (i := 186) rfl) rfl⟩⟩
theorem mo_136 : mOk 136 = true := by decide +kernel
set_option maxRecDepth 100000 in
theorem mc_137 : mIn 137 := in_t4 (List.mem_of_getElem? (i := 191) rfl) rfl
set_option maxRecDepth 100000 in
theorem mv_137 : mWd 137 := ⟨in_t1 (List.mem_of_getElem? (i := 7) rfl) rfl, ⟨in_t4 (List.mem_of_getElem? (i := 189) rfl) rfl, in_t4 (List.mem_of_getElem? (i := 190) rfl) rfl⟩⟩
theorem mo_137 : mOk 137 = true := by decide +kernel
set_option maxRecDepth 100000 in
theorem mc_138 : mIn 138 := in_t4 (List.mem_of_getElem? (i := 196) rfl) rfl
set_option maxRecDepth 100000 in
theorem mv_138 : mWd 138 := ⟨in_t1 (List.mem_of_getElem? (i := 1) rfl) rfl, ⟨in_t4 (List.mem_of_getElem? (i := 194) rfl) rfl, in_t4 (List.mem_of_getElem? (i := 195) rfl) rfl⟩⟩
theorem mo_138 : mOk 138 = true := by decide +kernel
set_option maxRecDepth 100000 in
theorem mc_139 : mIn 139 := in_t4 (List.mem_of_getElem? (i := 200) rfl) rfl
set_option maxRecDepth 100000 in
theorem mv_139 : mWd 139 := ⟨in_t1 (List.mem_of_getElem? (i := 7) rfl) rfl, ⟨in_t4 (List.mem_of_getElem? (i := 198) rfl) rfl, in_t4 (List.mem_of_getElem? (i := 199) rfl) rfl⟩⟩
theorem mo_139 : mOk 139 = true := by decide +kernel
set_option maxRecDepth 100000 in
theorem mc_140 : mIn 140 := in_t4 (List.mem_of_getElem? (i := 204) rfl) rfl
set_option maxRecDepth 100000 in
theorem mv_140 : mWd 140 := ⟨in_t1 (List.mem_of_getElem? (i := 1) rfl) rfl, ⟨in_t4 (List.mem_of_getElem? (i := 202) rfl) rfl, in_t4 (List.mem_of_getElem? (i := 203) rfl) rfl⟩⟩
theorem mo_140 : mOk 140 = true := by decide +kernel
set_option maxRecDepth 100000 in
theorem mc_141 : mIn 141 := in_t4 (List.mem_of_getElem? (i := 208) rfl) rfl
set_option maxRecDepth 100000 in
theorem mv_141 : mWd 141 := ⟨in_t1 (List.mem_of_getElem? (i := 1) rfl) rfl, ⟨in_t4 (List.mem_of_getElem? (i := 207) rfl) rfl, in_p (List.mem_of_getElem? (i := 35) rfl) rfl⟩⟩
theorem mo_141 : mOk 141 = true := by decide +kernel
set_option maxRecDepth 100000 in
theorem mc_142 : mIn 142 := in_t4 (List.mem_of_getElem? (i := 212) rfl) rfl
set_option maxRecDepth 100000 in
theorem mv_142 : mWd 142 := ⟨in_t1 (List.mem_of_getElem? (i := 1) rfl) rfl, ⟨in_t4 (List.mem_of_getElem? (i := 210) rfl) rfl, in_t4 (List.mem_of_getElem? (i := 211) rfl) rfl⟩⟩
theorem mo_142 : mOk 142 = true := by decide +kernel
set_option maxRecDepth 100000 in
theorem mc_143 : mIn 143 := in_t4 (List.mem_of_getElem? (i := 216) rfl) rfl
set_option maxRecDepth 100000 in
theorem mv_143 : mWd 143 := ⟨in_t1 (List.mem_of_getElem? (i := 1) rfl) rfl, ⟨in_t4 (List.mem_of_getElem? (i := 214) rfl) rfl, in_t4 (List.mem_of_getElem? (i := 215) rfl) rfl⟩⟩
theorem mo_143 : mOk 143 = true := by decide +kernel
set_option maxRecDepth 100000 in
theorem mc_144 : mIn 144 := in_t4 (List.mem_of_getElem? (i := 220) rfl) rfl
set_option maxRecDepth 100000 in
theorem mv_144 : mWd 144 := ⟨in_t1 (List.mem_of_getElem? (i := 7) rfl) rfl, ⟨in_t4 (List.mem_of_getElem? (i := 218) rfl) rfl, in_t4 (List.mem_of_getElem? (i := 219) rfl) rfl⟩⟩
theorem mo_144 : mOk 144 = true := by decide +kernel
set_option maxRecDepth 100000 in
theorem mc_145 : mIn 145 := in_t4 (List.mem_of_getElem? (i := 224) rfl) rfl
set_option maxRecDepth 100000 in
theorem mv_145 : mWd 145 := ⟨in_t1 (List.mem_of_getElem? (i := 2) rfl) rfl, ⟨in_t4 (List.mem_of_getElem? (i := 222) rfl) rfl, in_t4 (List.mem_of_getElem? (i := 223) rfl) rfl⟩⟩
theorem mo_145 : mOk 145 = true := by decide +kernel
set_option maxRecDepth 100000 in
theorem mc_146 : mIn 146 := in_t4 (List.mem_of_getElem? (i := 228) rfl) rfl
set_option maxRecDepth 100000 in
theorem mv_146 : mWd 146 := ⟨in_t1 (List.mem_of_getElem? (i := 1) rfl) rfl, ⟨in_t4 (List.mem_of_getElem? (i := 226) rfl) rfl, in_t4 (List.mem_of_getElem? (i := 227) rfl) rfl⟩⟩
theorem mo_146 : mOk 146 = true := by decide +kernel
set_option maxRecDepth 100000 in
theorem mc_147 : mIn 147 := in_t4 (List.mem_of_getElem? (i := 231) rfl) rfl
set_option maxRecDepth 100000 in
theorem mv_147 : mWd 147 := ⟨in_t1 (List.mem_of_getElem? (i := 8) rfl) rfl, in_t4 (List.mem_of_getElem? (i := 230) rfl) rfl⟩
theorem mo_147 : mOk 147 = true := by decide +kernel
set_option maxRecDepth 100000 in
theorem mc_148 : mIn 148 := in_t4 (List.mem_of_getElem? (i := 235) rfl) rfl
set_option maxRecDepth 100000 in
theorem mv_148 : mWd 148 := ⟨in_t1 (List.mem_of_getElem? (i := 8) rfl) rfl, ⟨in_t4 (List.mem_of_getElem? (i := 233) rfl) rfl, in_t4 (List.mem_of_getElem? (i := 234) rfl) rfl⟩⟩
theorem mo_148 : mOk 148 = true := by decide +kernel
set_option maxRecDepth 100000 in
theorem mc_149 : mIn 149 := in_t4 (List.mem_of_getElem? (i := 239) rfl) rfl
set_option maxRecDepth 100000 in
theorem mv_149 : mWd 149 := ⟨in_t1 (List.mem_of_getElem? (i := 1) rfl) rfl, ⟨in_t4 (List.mem_of_getElem? (i := 237) rfl) rfl, in_t4 (List.mem_of_getElem? (i := 238) rfl) rfl⟩⟩
theorem mo_149 : mOk 149 = true := by decide +kernel
set_option maxRecDepth 100000 in
theorem mc_150 : mIn 150 := in_t5 (List.mem_of_getElem? (i := 3) rfl) rfl
set_option maxRecDepth 100000 in
theorem mv_150 : mWd 150 := ⟨in_t1 (List.mem_of_getElem? (i := 8) rfl) rfl, ⟨in_t5 (List.mem_of_getElem? (i := 1) rfl) rfl, in_t5 (List.mem_of_getElem? (i := 2) rfl) rfl⟩⟩
theorem mo_150 : mOk 150 = true := by decide +kernel
set_option maxRecDepth 100000 in
theorem mc_151 : mIn 151 := in_t5 (List.mem_of_getElem? (i := 6) rfl) rfl
set_option maxRecDepth 100000 in
theorem mv_151 : mWd 151 := ⟨in_t1 (List.mem_of_getElem? (i := 8) rfl) rfl, in_t5 (List.mem_of_getElem? (i := 5) rfl) rfl⟩
theorem mo_151 : mOk 151 = true := by decide +kernel
set_option maxRecDepth 100000 in
theorem mc_152 : mIn 152 := in_t5 (List.mem_of_getElem? (i := 10) rfl) rfl
set_option maxRecDepth 100000 in
theorem mv_152 : mWd 152 := ⟨in_t1 (List.mem_of_getElem? (i := 1) rfl) rfl, ⟨in_t5 (List.mem_of_getElem? (i := 8) rfl) rfl, in_t5 (List.mem_of_getElem? (i := 9) rfl) rfl⟩⟩
theorem mo_152 : mOk 152 = true := by decide +kernel
set_option maxRecDepth 100000 in
theorem mc_153 : mIn 153 := in_t5 (List.mem_of_getElem? (i := 14) rfl) rfl
set_option maxRecDepth 100000 in
theorem mv_153 : mWd 153 := ⟨in_t1 (List.mem_of_getElem? (i := 8) rfl) rfl, ⟨in_t5 (List.mem_of_getElem? (i := 12) rfl) rfl, in_t5 (List.mem_of_getElem? (i := 13) rfl) rfl⟩⟩
theorem mo_153 : mOk 153 = true := by decide +kernel
set_option maxRecDepth 100000 in
theorem mc_154 : mIn 154 := in_t5 (List.mem_of_getElem? (i := 18) rfl) rfl
set_option maxRecDepth 100000 in
theorem mv_154 : mWd 154 := ⟨in_t1 (List.mem_of_getElem? (i := 1) rfl) rfl, ⟨in_t5 (List.mem_of_getElem? (i := 16) rfl) rfl, in_t5 (List.mem_of_getElem? (i := 17) rfl) rfl⟩⟩
theorem mo_154 : mOk 154 = true := by decide +kernel
set_option maxRecDepth 100000 in
theorem mc_155 : mIn 155 := in_t5 (List.mem_of_getElem? (i := 23) rfl) rfl
set_option maxRecDepth 100000 in
theorem mv_155 : mWd 155 := ⟨in_t1 (List.mem_of_getElem? (i := 1) rfl) rfl, ⟨in_t5 (List.mem_of_getElem? (i := 21) rfl) rfl, in_t5 (List.mem_of_getElem? (i := 22) rfl) rfl⟩⟩
theorem mo_155 : mOk 155 = true := by decide +kernel
set_option maxRecDepth 100000 in
theorem mc_156 : mIn 156 := in_t5 (List.mem_of_getElem? (i := 27) rfl) rfl
set_option maxRecDepth 100000 in
theorem mv_156 : mWd 156 := ⟨in_t1 (List.mem_of_getElem? (i := 7) rfl) rfl, ⟨in_t5 (List.mem_of_getElem? (i := 25) rfl) rfl, in_t5 (List.mem_of_getElem? (i := 26) rfl) rfl⟩⟩
theorem mo_156 : mOk 156 = true := by decide +kernel
set_option maxRecDepth 100000 in
theorem mc_157 : mIn 157 := in_t5 (List.mem_of_getElem? (i := 32) rfl) rfl
set_option maxRecDepth 100000 in
theorem mv_157 : mWd 157 := ⟨in_t1 (List.mem_of_getElem? (i := 1) rfl) rfl, ⟨in_t5 (List.mem_of_getElem? (i := 30) rfl) rfl, in_t5 (List.mem_of_getElem? (i := 31) rfl) rfl⟩⟩
theorem mo_157 : mOk 157 = true := by decide +kernel
set_option maxRecDepth 100000 in
theorem mc_158 : mIn 158 := in_t5 (List.mem_of_getElem? (i := 35) rfl) rfl
set_option maxRecDepth 100000 in
theorem mv_158 : mWd 158 := ⟨in_t1 (List.mem_of_getElem? (i := 8) rfl) rfl, in_t5 (List.mem_of_getElem? (i := 34) rfl) rfl⟩
theorem mo_158 : mOk 158 = true := by decide +kernel
set_option maxRecDepth 100000 in
theorem mc_159 : mIn 159 := in_t5 (List.mem_of_getElem? (i := 39) rfl) rfl
set_option maxRecDepth 100000 in
theorem mv_159 : mWd 159 := ⟨in_t1 (List.mem_of_getElem? (i := 8) rfl) rfl, ⟨in_t5 (List.mem_of_getElem? (i := 37) rfl) rfl, in_t5 (List.mem_of_getElem? (i := 38) rfl) rfl⟩⟩
theorem mo_159 : mOk 159 = true := by decide +kernel
set_option maxRecDepth 100000 in
theorem mc_160 : mIn 160 := in_t5 (List.mem_of_getElem? (i := 43) rfl) rfl
set_option maxRecDepth 100000 in
theorem mv_160 : mWd 160 := ⟨in_t1 (List.mem_of_getElem? (i := 8) rfl) rfl, ⟨in_t5 (List.mem_of_getElem? (i := 41) rfl) rfl, in_t5 (List.mem_of_getElem? (i := 42) rfl) rfl⟩⟩
theorem mo_160 : mOk 160 = true := by decide +kernel
set_option maxRecDepth 100000 in
theorem mc_161 : mIn 161 := in_t5 (List.mem_of_getElem? (i := 48) rfl) rfl
set_option maxRecDepth 100000 in
theorem mv_161 : mWd 161 := ⟨in_t1 (List.mem_of_getElem? (i := 1) rfl) rfl, ⟨in_t5 (List.mem_of_getElem? (i := 46) rfl) rfl, in_t5 (List.mem_of_getElem? (i := 47) rfl) rfl⟩⟩
theorem mo_161 : mOk 161 = true := by decide +kernel
set_option maxRecDepth 100000 in
theorem mc_162 : mIn 162 := in_t5 (List.mem_of_getElem? (i := 52) rfl) rfl
set_option maxRecDepth 100000 in
theorem mv_162 : mWd 162 := ⟨in_t1 (List.mem_of_getElem? (i := 1) rfl) rfl, ⟨in_t5 (List.mem_of_getElem? (i := 51) rfl) rfl, in_p (List.mem_of_getElem? (i := 36) rfl) rfl⟩⟩
theorem mo_162 : mOk 162 = true := by decide +kernel
set_option maxRecDepth 100000 in
theorem mc_163 : mIn 163 := in_t5 (List.mem_of_getElem? (i := 57) rfl) rfl
set_option maxRecDepth 100000 in
theorem mv_163 : mWd 163 := ⟨in_t1 (List.mem_of_getElem? (i := 1) rfl) rfl, ⟨in_t5 (List.mem_of_getElem? (i := 55) rfl) rfl, in_t5 (List.mem_of_getElem? (i := 56) rfl) rfl⟩⟩
theorem mo_163 : mOk 163 = true := by decide +kernel
set_option maxRecDepth 100000 in
theorem mc_164 : mIn 164 := in_t5 (List.mem_of_getElem? (i := 61) rfl) rfl
set_option maxRecDepth 100000 in
theorem mv_164 : mWd 164 := ⟨in_t1 (List.mem_of_getElem? (i := 9) rfl) rfl, ⟨in_t5 (List.mem_of_getElem? (i := 59) rfl) rfl, in_t5 (List.mem_of_getElem? (i := 60) rfl) rfl⟩⟩
theorem mo_164 : mOk 164 = true := by decide +kernel
set_option maxRecDepth 100000 in
theorem mc_165 : mIn 165 := in_t5 (List.mem_of_getElem? (i := 65) rfl) rfl
set_option maxRecDepth 100000 in
theorem mv_165 : mWd 165 := ⟨in_t1 (List.mem_of_getElem? (i := 9) rfl) rfl, ⟨in_t5 (List.mem_of_getElem? (i := 63) rfl) rfl, in_t5 (List.mem_of_getElem? (i := 64) rfl) rfl⟩⟩
theorem mo_165 : mOk 165 = true := by decide +kernel
set_option maxRecDepth 100000 in
theorem mc_166 : mIn 166 := in_t5 (List.mem_of_getElem? (i := 69) rfl) rfl
set_option maxRecDepth 100000 in
theorem mv_166 : mWd 166 := ⟨in_t1 (List.mem_of_getElem? (i := 9) rfl) rfl, ⟨in_t5 (List.mem_of_getElem? (i := 68) rfl) rfl, in_p (List.mem_of_getElem? (i := 37) rfl) rfl⟩⟩
theorem mo_166 : mOk 166 = true := by decide +kernel
set_option maxRecDepth 100000 in
theorem mc_167 : mIn 167 := in_t5 (List.mem_of_getElem? (i := 75) rfl) rfl
set_option maxRecDepth 100000 in
theorem mv_167 : mWd 167 := ⟨in_t1 (List.mem_of_getElem? (i := 9) rfl) rfl, ⟨in_t5 (List.mem_of_getElem? (i := 74) rfl) rfl, in_p (List.mem_of_getElem? (i := 38) rfl) rfl⟩⟩
theorem mo_167 : mOk 167 = true := by decide +kernel
set_option maxRecDepth 100000 in
theorem mc_168 : mIn 168 := in_t5 (List.mem_of_getElem? (i := 79) rfl) rfl
set_option maxRecDepth 100000 in
theorem mv_168 : mWd 168 := ⟨in_t1 (List.mem_of_getElem? (i := 9) rfl) rfl, ⟨in_t5 (List.mem_of_getElem? (i := 78) rfl) rfl, in_p (List.mem_of_getElem? (i := 39) rfl) rfl⟩⟩
theorem mo_168 : mOk 168 = true := by decide +kernel
set_option maxRecDepth 100000 in
theorem mc_169 : mIn 169 := in_t5 (List.mem_of_getElem? (i := 83) rfl) rfl
set_option maxRecDepth 100000 in
theorem mv_169 : mWd 169 := ⟨in_t1 (List.mem_of_getElem? (i := 1) rfl) rfl, ⟨in_t5 (List.mem_of_getElem? (i := 81) rfl) rfl, in_t5 (List.mem_of_getElem? (i := 82) rfl) rfl⟩⟩
theorem mo_169 : mOk 169 = true := by decide +kernel
set_option maxRecDepth 100000 in
theorem mc_170 : mIn 170 := in_t5 (List.mem_of_getElem? (i := 87) rfl) rfl
set_option maxRecDepth 100000 in
theorem mv_170 : mWd 170 := ⟨in_t1 (List.mem_of_getElem? (i := 1) rfl) rfl, ⟨in_t5 (List.mem_of_getElem? (i := 85) rfl) rfl, in_t5 (List.mem_of_getElem? (i := 86) rfl) rfl⟩⟩
theorem mo_170 : mOk 170 = true := by decide +kernel
set_option maxRecDepth 100000 in
theorem mc_171 : mIn 171 := in_t5 (List.mem_of_getElem? (i := 91) rfl) rfl
set_option maxRecDepth 100000 in
theorem mv_171 : mWd 171 := ⟨in_t1 (List.mem_of_getElem? (i := 1) rfl) rfl, ⟨in_t5 (List.mem_of_getElem? (i := 89) rfl) rfl, in_t5 (List.mem_of_getElem? (i := 90) rfl) rfl⟩⟩
theorem mo_171 : mOk 171 = true := by decide +kernel
set_option maxRecDepth 100000 in
theorem mc_172 : mIn 172 := in_t5 (List.mem_of_getElem? (i := 95) rfl) rfl
set_option maxRecDepth 100000 in
theorem mv_172 : mWd 172 := ⟨in_t1 (List.mem_of_getElem? (i := 2) rfl) rfl, ⟨in_t5 (List.mem_of_getElem? (i := 93) rfl) rfl, in_t5 (List.mem_of_getElem? (i := 94) rfl) rfl⟩⟩
theorem mo_172 : mOk 172 = true := by decide +kernel
set_option maxRecDepth 100000 in
theorem mc_173 : mIn 173 := in_t5 (List.mem_of_getElem? (i := 102) rfl) rfl
set_option maxRecDepth 100000 in
theorem mv_173 : mWd 173 := ⟨in_t1 (List.mem_of_getElem? (i := 5) rfl) rfl, ⟨in_t5 (List.mem_of_getElem? (i := 100) rfl) rfl, in_t5 (List.mem_of_getElem? (i := 101) rfl) rfl⟩⟩
theorem mo_173 : mOk 173 = true := by decide +kernel
set_option maxRecDepth 100000 in
theorem mc_174 : mIn 174 := in_t5 (List.mem_of_getElem? (i := 107) rfl) rfl
set_option maxRecDepth 100000 in
theorem mv_174 : mWd 174 := ⟨in_t1 (List.mem_of_getElem? (i := 1) rfl) rfl, ⟨in_t5 (List.mem_of_getElem? (i := 105) rfl) rfl, in_t5 (List.mem_of_getElem? (i := 106) rfl) rfl⟩⟩
theorem mo_174 : mOk 174 = true := by decide +kernel
set_option maxRecDepth 100000 in
theorem mc_175 : mIn 175 := in_t5 (List.mem_of_getElem? (i := 112) rfl) rfl
set_option maxRecDepth 100000 in
theorem mv_175 : mWd 175 := ⟨in_t1 (List.mem_of_getElem? (i := 10) rfl) rfl, trivial⟩
theorem mo_175 : mOk 175 = true := by decide +kernel
set_option maxRecDepth 100000 in
theorem mc_176 : mIn 176 := in_t5 (List.mem_of_getElem? (i := 232) rfl) rfl
set_option maxRecDepth 100000 in
theorem mv_176 : mWd 176 := ⟨in_t1 (List.mem_of_getElem? (i := 10) rfl) rfl, ⟨in_t5 (List.mem_of_getElem? (i := 230) rfl) rfl, in_t5 (List.mem_of_getElem? (i := 231) rfl) rfl⟩⟩
theorem mo_176 : mOk 176 = true := by decide +kernel
set_option maxRecDepth 100000 in
theorem mc_177 : mIn 177 := in_t5 (List.mem_of_getElem? (i := 236) rfl) rfl
set_option maxRecDepth 100000 in
theorem mv_177 : mWd 177 := ⟨in_t1 (List.mem_of_getElem? (i := 10) rfl) rfl, in_t5 (List.mem_of_getElem? (i := 235) rfl) rfl⟩
theorem mo_177 : mOk 177 = true := by decide +kernel
set_option maxRecDepth 100000 in
theorem mc_178 : mIn 178 := in_t6 (List.mem_of_getElem? (i := 2) rfl) rfl
set_option maxRecDepth 100000 in
theorem mv_178 : mWd 178 := ⟨in_t1 (List.mem_of_getElem? (i := 10) rfl) rfl, ⟨in_t6 (List.mem_of_getElem? (i := 1) rfl) rfl, in_p (List.mem_of_getElem? (i := 40) rfl) rfl⟩⟩
theorem mo_178 : mOk 178 = true := by decide +kernel
set_option maxRecDepth 100000 in
theorem mc_179 : mIn 179 := in_t6 (List.mem_of_getElem? (i := 6) rfl) rfl
set_option maxRecDepth 100000 in
theorem mv_179 : mWd 179 := ⟨in_t1 (List.mem_of_getElem? (i := 10) rfl) rfl, ⟨in_t6 (List.mem_of_getElem? (i := 4) rfl) rfl, in_t6 (List.mem_of_getElem? (i := 5) rfl) rfl⟩⟩
theorem mo_179 : mOk 179 = true := by decide +kernel
set_option maxRecDepth 100000 in
theorem mc_180 : mIn 180 := in_t6 (List.mem_of_getElem? (i := 10) rfl) rfl
set_option maxRecDepth 100000 in
theorem mv_180 : mWd 180 := ⟨in_t1 (List.mem_of_getElem? (i := 10) rfl) rfl, ⟨in_t6 (List.mem_of_getElem? (i := 9) rfl) rfl, in_p (List.mem_of_getElem? (i := 41) rfl) rfl⟩⟩
theorem mo_180 : mOk 180 = true := by decide +kernel
set_option maxRecDepth 100000 in
theorem mc_181 : mIn 181 := in_t6 (List.mem_of_getElem? (i := 14) rfl) rfl
set_option maxRecDepth 100000 in
theorem mv_181 : mWd 181 := ⟨in_t1 (List.mem_of_getElem? (i := 10) rfl) rfl, ⟨in_t6 (List.mem_of_getElem? (i := 13) rfl) rfl, in_p (List.mem_of_getElem? (i := 42) rfl) rfl⟩⟩
theorem mo_181 : mOk 181 = true := by decide +kernel
set_option maxRecDepth 100000 in
theorem mc_182 : mIn 182 := in_t6 (List.mem_of_getElem? (i := 18) rfl) rfl
set_option maxRecDepth 100000 in
theorem mv_182 : mWd 182 := ⟨in_t1 (List.mem_of_getElem? (i := 10) rfl) rfl, ⟨in_t6 (List.mem_of_getElem? (i := 17) rfl) rfl, in_p (List.mem_of_getElem? (i := 43) rfl) rfl⟩⟩
theorem mo_182 : mOk 182 = true := by decide +kernel
set_option maxRecDepth 100000 in
theorem mc_183 : mIn 183 := in_t6 (List.mem_of_getElem? (i := 22) rfl) rfl
set_option maxRecDepth 100000 in
theorem mv_183 : mWd 183 := ⟨in_t1 (List.mem_of_getElem? (i := 10) rfl) rfl, ⟨in_t6 (List.mem_of_getElem? (i := 21) rfl) rfl, in_p (List.mem_of_getElem? (i := 44) rfl) rfl⟩⟩
theorem mo_183 : mOk 183 = true := by decide +kernel
set_option maxRecDepth 100000 in
theorem mc_184 : mIn 184 := in_t6 (List.mem_of_getElem? (i := 26) rfl) rfl
set_option maxRecDepth 100000 in
theorem mv_184 : mWd 184 := ⟨in_t1 (List.mem_of_getElem? (i := 10) rfl) rfl, ⟨in_t6 (List.mem_of_getElem? (i := 25) rfl) rfl, in_p (List.mem_of_getElem? (i := 45) rfl) rfl⟩⟩
theorem mo_184 : mOk 184 = true := by decide +kernel
set_option maxRecDepth 100000 in
theorem mc_185 : mIn 185 := in_t6 (List.mem_of_getElem? (i := 29) rfl) rfl
set_option maxRecDepth 100000 in
theorem mv_185 : mWd 185 := ⟨in_t1 (List.mem_of_getElem? (i := 10) rfl) rfl, in_t6 (List.mem_of_getElem? (i := 28) rfl) rfl⟩
theorem mo_185 : mOk 185 = true := by decide +kernel
set_option maxRecDepth 100000 in
theorem mc_186 : mIn 186 := in_t6 (List.mem_of_getElem? (i := 32) rfl) rfl
set_option maxRecDepth 100000 in
theorem mv_186 : mWd 186 := ⟨in_t1 (List.mem_of_getElem? (i := 10) rfl) rfl, in_t6 (List.mem_of_getElem? (i := 31) rfl) rfl⟩
theorem mo_186 : mOk 186 = true := by decide +kernel
set_option maxRecDepth 100000 in
theorem mc_187 : mIn 187 := in_t6 (List.mem_of_getElem? (i := 36) rfl) rfl
set_option maxRecDepth 100000 in
theorem mv_187 : mWd 187 := ⟨in_t1 (List.mem_of_getElem? (i := 10) rfl) rfl, ⟨in_t6 (List.mem_of_getElem? (i := 35) rfl) rfl, in_p (List.mem_of_getElem? (i := 46) rfl) rfl⟩⟩
theorem mo_187 : mOk 187 = true := by decide +kernel
set_option maxRecDepth 100000 in
theorem mc_188 : mIn 188 := in_t6 (List.mem_of_getElem? (i := 40) rfl) rfl
set_option maxRecDepth 100000 in
theorem mv_188 : mWd 188 := ⟨in_t1 (List.mem_of_getElem? (i := 10) rfl) rfl, ⟨in_t6 (List.mem_of_getElem? (i := 39) rfl) rfl, in_p (List.mem_of_getElem? (i := 47) rfl) rfl⟩⟩
theorem mo_188 : mOk 188 = true := by decide +kernel
set_option maxRecDepth 100000 in
theorem mc_189 : mIn 189 := in_t6 (List.mem_of_getElem? (i := 43) rfl) rfl
set_option maxRecDepth 100000 in
theorem mv_189 : mWd 189 := ⟨in_t1 (List.mem_of_getElem? (i := 10) rfl) rfl, in_t6 (List.mem_of_getElem? (i := 42) rfl) rfl⟩
theorem mo_189 : mOk 189 = true := by decide +kernel
set_option maxRecDepth 100000 in
theorem mc_190 : mIn 190 := in_t6 (List.mem_of_getElem? (i := 47) rfl) rfl
set_option maxRecDepth 100000 in
theorem mv_190 : mWd 190 := ⟨in_t1 (List.mem_of_getElem? (i := 10) rfl) rfl, ⟨in_t6 (List.mem_of_getElem? (i := 46) rfl) rfl, in_p (List.mem_of_getElem? (i := 48) rfl) rfl⟩⟩
theorem mo_190 : mOk 190 = true := by decide +kernel
set_option maxRecDepth 100000 in
theorem mc_191 : mIn 191 := in_t6 (List.mem_of_getElem? (i := 51) rfl) rfl
set_option maxRecDepth 100000 in
theorem mv_191 : mWd 191 := ⟨in_t1 (List.mem_of_getElem? (i := 10) rfl) rfl, ⟨in_t6 (List.mem_of_getElem? (i := 50) rfl) rfl, in_p (List.mem_of_getElem? (i := 49) rfl) rfl⟩⟩
theorem mo_191 : mOk 191 = true := by decide +kernel
set_option maxRecDepth 100000 in
theorem mc_192 : mIn 192 := in_t6 (List.mem_of_getElem? (i := 54) rfl) rfl
set_option maxRecDepth 100000 in
theorem mv_192 : mWd 192 := ⟨in_t1 (List.mem_of_getElem? (i := 10) rfl) rfl, in_t6 (List.mem_of_getElem? (i := 53) rfl) rfl⟩
theorem mo_192 : mOk 192 = true := by decide +kernel
set_option maxRecDepth 100000 in
theorem mc_193 : mIn 193 := in_t6 (List.mem_of_getElem? (i := 58) rfl) rfl
set_option maxRecDepth 100000 in
theorem mv_193 : mWd 193 := ⟨in_t1 (List.mem_of_getElem? (i := 10) rfl) rfl, ⟨in_t6 (List.mem_of_getElem? (i := 57) rfl) rfl, in_p (List.mem_of_getElem? (i := 50) rfl) rfl⟩⟩
theorem mo_193 : mOk 193 = true := by decide +kernel
set_option maxRecDepth 100000 in
theorem mc_194 : mIn 194 := in_t6 (List.mem_of_getElem? (i := 62) rfl) rfl
set_option maxRecDepth 100000 in
theorem mv_194 : mWd 194 := ⟨in_t1 (List.mem_of_getElem? (i := 10) rfl) rfl, ⟨in_t6 (List.mem_of_getElem? (i := 61) rfl) rfl, in_p (List.mem_of_getElem? (i := 51) rfl) rfl⟩⟩
theorem mo_194 : mOk 194 = true := by decide +kernel
set_option maxRecDepth 100000 in
theorem mc_195 : mIn 195 := in_t6 (List.mem_of_getElem? (i := 65) rfl) rfl
set_option maxRecDepth 100000 in
theorem mv_195 : mWd 195 := ⟨in_t1 (List.mem_of_getElem? (i := 10) rfl) rfl, in_t6 (List.mem_of_getElem? (i := 64) rfl) rfl⟩
theorem mo_195 : mOk 195 = true := by decide +kernel
set_option maxRecDepth 100000 in
theorem mc_196 : mIn 196 := in_t6 (List.mem_of_getElem? (i := 69) rfl) rfl
set_option maxRecDepth 100000 in
theorem mv_196 : mWd 196 := ⟨in_t1 (List.mem_of_getElem? (i := 10) rfl) rfl, ⟨in_t6 (List.mem_of_getElem? (i := 67) rfl) rfl, in_t6 (List.mem_of_getElem? (i := 68) rfl) rfl⟩⟩
theorem mo_196 : mOk 196 = true := by decide +kernel
set_option maxRecDepth 100000 in
theorem mc_197 : mIn 197 := in_t6 (List.mem_of_getElem? (i := 73) rfl) rfl
set_option maxRecDepth 100000 in
theorem mv_197 : mWd 197 := ⟨in_t1 (List.mem_of_getElem? (i := 10) rfl) rfl, ⟨in_t6 (List.mem_of_getElem? (i := 72) rfl) rfl, in_p (List.mem_of_getElem? (i := 52) rfl) rfl⟩⟩
theorem mo_197 : mOk 197 = true := by decide +kernel
set_option maxRecDepth 100000 in
theorem mc_198 : mIn 198 := in_t6 (List.mem_of_getElem? (i := 77) rfl) rfl
set_option maxRecDepth 100000 in
theorem mv_198 : mWd 198 := ⟨in_t1 (List.mem_of_getElem? (i := 10) rfl) rfl, ⟨in_t6 (List.mem_of_getElem? (i := 75) rfl) rfl, in_t6 (List.mem_of_getElem? (i := 76) rfl) rfl⟩⟩
theorem mo_198 : mOk 198 = true := by decide +kernel
set_option maxRecDepth 100000 in
theorem mc_199 : mIn 199 := in_t6 (List.mem_of_getElem? (i := 81) rfl) rfl
set_option maxRecDepth 100000 in
theorem mv_199 : mWd 199 := ⟨in_t1 (List.mem_of_getElem? (i := 10) rfl) rfl, ⟨in_t6 (List.mem_of_getElem? (i := 79) rfl) rfl, in_t6 (List.mem_of_getElem? (i := 80) rfl) rfl⟩⟩
theorem mo_199 : mOk 199 = true := by decide +kernel
set_option maxRecDepth 100000 in
theorem mc_200 : mIn 200 := in_t6 (List.mem_of_getElem? (i := 86) rfl) rfl
set_option maxRecDepth 100000 in
theorem mv_200 : mWd 200 := ⟨in_t1 (List.mem_of_getElem? (i := 10) rfl) rfl, ⟨in_t6 (List.mem_of_getElem? (i := 84) rfl) rfl, in_t6 (List.mem_of_getElem? (i := 85) rfl) rfl⟩⟩
theorem mo_200 : mOk 200 = true := by decide +kernel
set_option maxRecDepth 100000 in
theorem mc_201 : mIn 201 := in_t6 (List.mem_of_getElem? (i := 90) rfl) rfl
set_option maxRecDepth 100000 in
theorem mv_201 : mWd 201 := ⟨in_t1 (List.mem_of_getElem? (i := 10) rfl) rfl, ⟨in_t6 (List.mem_of_getElem? (i := 88) rfl) rfl, in_t6 (List.mem_of_getElem? (i := 89) rfl) rfl⟩⟩
theorem mo_201 : mOk 201 = true := by decide +kernel
set_option maxRecDepth 100000 in
theorem mc_202 : mIn 202 := in_t6 (List.mem_of_getElem? (i := 94) rfl) rfl
set_option maxRecDepth 100000 in
theorem mv_202 : mWd 202 := ⟨in_t1 (List.mem_of_getElem? (i := 10) rfl) rfl, ⟨in_t6 (List.mem_of_getElem? (i := 92) rfl) rfl, in_t6 (List.mem_of_getElem? (i := 93) rfl) rfl⟩⟩
theorem mo_202 : mOk 202 = true := by decide +kernel
set_option maxRecDepth 100000 in
theorem mc_203 : mIn 203 := in_t6 (List.mem_of_getElem? (i := 99) rfl) rfl
set_option maxRecDepth 100000 in
theorem mv_203 : mWd 203 := ⟨in_t1 (List.mem_of_getElem? (i := 10) rfl) rfl, ⟨in_t6 (List.mem_of_getElem? (i := 97) rfl) rfl, in_t6 (List.mem_of_getElem? (i := 98) rfl) rfl⟩⟩
theorem mo_203 : mOk 203 = true := by decide +kernel
set_option maxRecDepth 100000 in
theorem mc_204 : mIn 204 := in_t6 (List.mem_of_getElem? (i := 103) rfl) rfl
set_option maxRecDepth 100000 in
theorem mv_204 : mWd 204 := ⟨in_t1 (List.mem_of_getElem? (i := 10) rfl) rfl, ⟨in_t6 (List.mem_of_getElem? (i := 101) rfl) rfl, in_t6 (List.mem_of_getElem? (i := 102) rfl) rfl⟩⟩
theorem mo_204 : mOk 204 = true := by decide +kernel
set_option maxRecDepth 100000 in
theorem mc_205 : mIn 205 := in_t6 (List.mem_of_getElem? (i := 107) rfl) rfl
set_option maxRecDepth 100000 in
theorem mv_205 : mWd 205 := ⟨in_t1 (List.mem_of_getElem? (i := 10) rfl) rfl, ⟨in_t6 (List.mem_of_getElem? (i := 106) rfl) rfl, in_p (List.mem_of_getElem? (i := 53) rfl) rfl⟩⟩
theorem mo_205 : mOk 205 = true := by decide +kernel
set_option maxRecDepth 100000 in
theorem mc_206 : mIn 206 := in_t6 (List.mem_of_getElem? (i := 111) rfl) rfl
set_option maxRecDepth 100000 in
theorem mv_206 : mWd 206 := ⟨in_t1 (List.mem_of_getElem? (i := 10) rfl) rfl, ⟨in_t6 (List.mem_of_getElem? (i := 110) rfl) rfl, in_p (List.mem_of_getElem? (i := 54) rfl) rfl⟩⟩
theorem mo_206 : mOk 206 = true := by decide +kernel
set_option maxRecDepth 100000 in
theorem mc_207 : mIn 207 := in_t6 (List.mem_of_getElem? (i := 115) rfl) rfl
set_option maxRecDepth 100000 in
theorem mv_207 : mWd 207 := ⟨in_t1 (List.mem_of_getElem? (i := 10) rfl) rfl, ⟨in_t6 (List.mem_of_getElem? (i := 114) rfl) rfl, in_p (List.mem_of_getElem? (i := 55) rfl) rfl⟩⟩
theorem mo_207 : mOk 207 = true := by decide +kernel
set_option maxRecDepth 100000 in
theorem mc_208 : mIn 208 := in_t6 (List.mem_of_getElem? (i := 119) rfl) rfl
set_option maxRecDepth 100000 in
theorem mv_208 : mWd 208 := ⟨in_t1 (List.mem_of_getElem? (i := 10) rfl) rfl, ⟨in_t6 (List.mem_of_getElem? (i := 117) rfl) rfl, in_t6 (List.mem_of_getElem? (i := 118) rfl) rfl⟩⟩
theorem mo_208 : mOk 208 = true := by decide +kernel
set_option maxRecDepth 100000 in
theorem mc_209 : mIn 209 := in_t6 (List.mem_of_getElem? (i := 125) rfl) rfl
set_option maxRecDepth 100000 in
theorem mv_209 : mWd 209 := ⟨in_t1 (List.mem_of_getElem? (i := 10) rfl) rfl, ⟨in_t6 (List.mem_of_getElem? (i := 123) rfl) rfl, in_t6 (List.mem_of_getElem? (i := 124) rfl) rfl⟩⟩
theorem mo_209 : mOk 209 = true := by decide +kernel
set_option maxRecDepth 100000 in
theorem mc_210 : mIn 210 := in_t6 (List.mem_of_getElem? (i := 129) rfl) rfl
set_option maxRecDepth 100000 in
theorem mv_210 : mWd 210 := ⟨in_t1 (List.mem_of_getElem? (i := 10) rfl) rfl, ⟨in_t6 (List.mem_of_getElem? (i := 128) rfl) rfl, in_p (List.mem_of_getElem? (i := 56) rfl) rfl⟩⟩
theorem mo_210 : mOk 210 = true := by decide +kernel
set_option maxRecDepth 100000 in
theorem mc_211 : mIn 211 := in_t6 (List.mem_of_getElem? (i := 133) rfl) rfl
set_option maxRecDepth 100000 in
theorem mv_211 : mWd 211 := ⟨in_t1 (List.mem_of_getElem? (i := 10) rfl) rfl, ⟨in_t6 (List.mem_of_getElem? (i := 132) rfl) rfl, in_p (List.mem_of_getElem? (i := 57) rfl) rfl⟩⟩
theorem mo_211 : mOk 211 = true := by decide +kernel
set_option maxRecDepth 100000 in
theorem mc_212 : mIn 212 := in_t6 (List.mem_of_getElem? (i := 143) rfl) rfl
set_option maxRecDepth 100000 in
theorem mv_212 : mWd 212 := ⟨in_t1 (List.mem_of_getElem? (i := 10) rfl) rfl, ⟨in_t6 (List.mem_of_getElem? (i := 142) rfl) rfl, in_p (List.mem_of_getElem? (i := 58) rfl) rfl⟩⟩
theorem mo_212 : mOk 212 = true := by decide +kernel
set_option maxRecDepth 100000 in
theorem mc_213 : mIn 213 := in_t6 (List.mem_of_getElem? (i := 147) rfl) rfl
set_option maxRecDepth 100000 in
theorem mv_213 : mWd 213 := ⟨in_t1 (List.mem_of_getElem? (i := 10) rfl) rfl, ⟨in_t6 (List.mem_of_getElem? (i := 146) rfl) rfl, in_p (List.mem_of_getElem? (i := 59) rfl) rfl⟩⟩
theorem mo_213 : mOk 213 = true := by decide +kernel
set_option maxRecDepth 100000 in
theorem mc_214 : mIn 214 := in_t6 (List.mem_of_getElem? (i := 152) rfl) rfl
set_option maxRecDepth 100000 in
theorem mv_214 : mWd 214 := ⟨in_t1 (List.mem_of_getElem? (i := 10) rfl) rfl, ⟨in_t6 (List.mem_of_getElem? (i := 151) rfl) rfl, in_p (List.mem_of_getElem? (i := 60) rfl) rfl⟩⟩
theorem mo_214 : mOk 214 = true := by decide +kernel
set_option maxRecDepth 100000 in
theorem mc_215 : mIn 215 := in_t6 (List.mem_of_getElem? (i := 161) rfl) rfl
set_option maxRecDepth 100000 in
theorem mv_215 : mWd 215 := ⟨in_t1 (List.mem_of_getElem? (i := 10) rfl) rfl, ⟨in_t6 (List.mem_of_getElem? (i := 160) rfl) rfl, in_p (List.mem_of_getElem? (i := 61) rfl) rfl⟩⟩
theorem mo_215 : mOk 215 = true := by decide +kernel
set_option maxRecDepth 100000 in
theorem mc_216 : mIn 216 := in_t6 (List.mem_of_getElem? (i := 166) rfl) rfl
set_option maxRecDepth 100000 in
theorem mv_216 : mWd 216 := ⟨in_t1 (List.mem_of_getElem? (i := 10) rfl) rfl, ⟨in_t6 (List.mem_of_getElem? (i := 165) rfl) rfl, in_p (List.mem_of_getElem? (i := 62) rfl) rfl⟩⟩
theorem mo_216 : mOk 216 = true := by decide +kernel
set_option maxRecDepth 100000 in
theorem mc_217 : mIn 217 := in_t6 (List.mem_of_getElem? (i := 170) rfl) rfl
set_option maxRecDepth 100000 in
theorem mv_217 : mWd 217 := ⟨in_t1 (List.mem_of_getElem? (i := 10) rfl) rfl, ⟨in_t6 (List.mem_of_getElem? (i := 169) rfl) rfl, in_p (List.mem_of_getElem? (i := 63) rfl) rfl⟩⟩
theorem mo_217 : mOk 217 = true := by decide +kernel
set_option maxRecDepth 100000 in
theorem mc_218 : mIn 218 := in_t6 (List.mem_of_getElem? (i := 174) rfl) rfl
set_option maxRecDepth 100000 in
theorem mv_218 : mWd 218 := ⟨in_t1 (List.mem_of_getElem? (i := 10) rfl) rfl, ⟨in_t6 (List.mem_of_getElem? (i := 173) rfl) rfl, in_p (List.mem_of_getElem? (i := 64) rfl) rfl⟩⟩
theorem mo_218 : mOk 218 = true := by decide +kernel
set_option maxRecDepth 100000 in
theorem mc_219 : mIn 219 := in_t6 (List.mem_of_getElem? (i := 179) rfl) rfl
set_option maxRecDepth 100000 in
theorem mv_219 : mWd 219 := ⟨in_t1 (List.mem_of_getElem? (i := 10) rfl) rfl, ⟨in_t6 (List.mem_of_getElem? (i := 178) rfl) rfl, in_p (List.mem_of_getElem? (i := 65) rfl) rfl⟩⟩
theorem mo_219 : mOk 219 = true := by decide +kernel
set_option maxRecDepth 100000 in
theorem mc_220 : mIn 220 := in_t6 (List.mem_of_getElem? (i := 183) rfl) rfl
set_option maxRecDepth 100000 in
theorem mv_220 : mWd 220 := ⟨in_t1 (List.mem_of_getElem? (i := 10) rfl) rfl, ⟨in_t6 (List.mem_of_getElem? (i := 182) rfl) rfl, in_p (List.mem_of_getElem? (i := 66) rfl) rfl⟩⟩
theorem mo_220 : mOk 220 = true := by decide +kernel
set_option maxRecDepth 100000 in
theorem mc_221 : mIn 221 := in_t6 (List.mem_of_getElem? (i := 187) rfl) rfl
set_option maxRecDepth 100000 in
theorem mv_221 : mWd 221 := ⟨in_t1 (List.mem_of_getElem? (i := 10) rfl) rfl, ⟨in_t6 (List.mem_of_getElem? (i := 186) rfl) rfl, in_p (List.mem_of_getElem? (i := 67) rfl) rfl⟩⟩
theorem mo_221 : mOk 221 = true := by decide +kernel
set_option maxRecDepth 100000 in
theorem mc_222 : mIn 222 := in_t6 (List.mem_of_getElem? (i := 196) rfl) rfl
set_option maxRecDepth 100000 in
theorem mv_222 : mWd 222 := ⟨in_t1 (List.mem_of_getElem? (i := 10) rfl) rfl, ⟨in_t6 (List.mem_of_getElem? (i := 195) rfl) rfl, in_p (List.mem_of_getElem? (i := 68) rfl) rfl⟩⟩
theorem mo_222 : mOk 222 = true := by decide +kernel
set_option maxRecDepth 100000 in
theorem mc_223 : mIn 223 := in_t6 (List.mem_of_getElem? (i := 202) rfl) rfl
set_option maxRecDepth 100000 in
theorem mv_223 : mWd 223 := ⟨in_t1 (List.mem_of_getElem? (i := 10) rfl) rfl, ⟨in_t6 (List.mem_of_getElem? (i := 201) rfl) rfl, in_p (List.mem_of_getElem? (i := 69) rfl) rfl⟩⟩
theorem mo_223 : mOk 223 = true := by decide +kernel
set_option maxRecDepth 100000 in
theorem mc_224 : mIn 224 := in_t6 (List.mem_of_getElem? (i := 209) rfl) rfl
set_option maxRecDepth 100000 in
theorem mv_224 : mWd 224 := ⟨in_t1 (List.mem_of_getElem? (i := 10) rfl) rfl, ⟨in_t6 (List.mem_of_getElem? (i := 207) rfl) rfl, in_t6 (List.mem_of_getElem? (i := 208) rfl) rfl⟩⟩
theorem mo_224 : mOk 224 = true := by decide +kernel
set_option maxRecDepth 100000 in
theorem mc_225 : mIn 225 := in_t6 (List.mem_of_getElem? (i := 213) rfl) rfl
set_option maxRecDepth 100000 in
theorem mv_225 : mWd 225 := ⟨in_t1 (List.mem_of_getElem? (i := 10) rfl) rfl, ⟨in_t6 (List.mem_of_getElem? (i := 212) rfl) rfl, in_p (List.mem_of_getElem? (i := 70) rfl) rfl⟩⟩
theorem mo_225 : mOk 225 = true := by decide +kernel
set_option maxRecDepth 100000 in
theorem mc_226 : mIn 226 := in_t6 (List.mem_of_getElem? (i := 217) rfl) rfl
set_option maxRecDepth 100000 in
theorem mv_226 : mWd 226 := ⟨in_t1 (List.mem_of_getElem? (i := 10) rfl) rfl, ⟨in_t6 (List.mem_of_getElem? (i := 216) rfl) rfl, in_p (List.mem_of_getElem? (i := 71) rfl) rfl⟩⟩
theorem mo_226 : mOk 226 = true := by decide +kernel
set_option maxRecDepth 100000 in
theorem mc_227 : mIn 227 := in_t6 (List.mem_of_getElem? (i := 221) rfl) rfl
set_option maxRecDepth 100000 in
theorem mv_227 : mWd 227 := ⟨in_t1 (List.mem_of_getElem? (i := 10) rfl) rfl, ⟨in_t6 (List.mem_of_getElem? (i := 220) rfl) rfl, in_p (List.mem_of_getElem? (i := 72) rfl) rfl⟩⟩
theorem mo_227 : mOk 227 = true := by decide +kernel
set_option maxRecDepth 100000 in
theorem mc_228 : mIn 228 := in_t6 (List.mem_of_getElem? (i := 225) rfl) rfl
set_option maxRecDepth 100000 in
theorem mv_228 : mWd 228 := ⟨in_t1 (List.mem_of_getElem? (i := 10) rfl) rfl, ⟨in_t6 (List.mem_of_getElem? (i := 223) rfl) rfl, in_t6 (List.mem_of_getElem? (i := 224) rfl) rfl⟩⟩
theorem mo_228 : mOk 228 = true := by decide +kernel
set_option maxRecDepth 100000 in
theorem mc_229 : mIn 229 := in_t6 (List.mem_of_getElem? (i := 229) rfl) rfl
set_option maxRecDepth 100000 in
theorem mv_229 : mWd 229 := ⟨in_t1 (List.mem_of_getElem? (i := 10) rfl) rfl, ⟨in_t6 (List.mem_of_getElem? (i := 228) rfl) rfl, in_p (List.mem_of_getElem? (i := 73) rfl) rfl⟩⟩
theorem mo_229 : mOk 229 = true := by decide +kernel
set_option maxRecDepth 100000 in
theorem mc_230 : mIn 230 := in_t6 (List.mem_of_getElem? (i := 233) rfl) rfl
set_option maxRecDepth 100000 in
theorem mv_230 : mWd 230 := ⟨in_t1 (List.mem_of_getElem? (i := 10) rfl) rfl, ⟨in_t6 (List.mem_of_getElem? (i := 232) rfl) rfl, in_p (List.mem_of_getElem? (i := 74) rfl) rfl⟩⟩
theorem mo_230 : mOk 230 = true := by decide +kernel
set_option maxRecDepth 100000 in
theorem mc_231 : mIn 231 := in_t6 (List.mem_of_getElem? (i := 237) rfl) rfl
set_option maxRecDepth 100000 in
theorem mv_231 : mWd 231 := ⟨in_t1 (List.mem_of_getElem? (i := 10) rfl) rfl, ⟨in_t6 (List.mem_of_getElem? (i := 236) rfl) rfl, in_p (List.mem_of_getElem? (i := 75) rfl) rfl⟩⟩
theorem mo_231 : mOk 231 = true := by decide +kernel
set_option maxRecDepth 100000 in
theorem mc_232 : mIn 232 := in_t7 (List.mem_of_getElem? (i := 1) rfl) rfl
set_option maxRecDepth 100000 in
theorem mv_232 : mWd 232 := ⟨in_t1 (List.mem_of_getElem? (i := 10) rfl) rfl, ⟨in_t7 (List.mem_of_getElem? (i := 0) rfl) rfl, in_p (List.mem_of_getElem? (i := 76) rfl) rfl⟩⟩
theorem mo_232 : mOk 232 = true := by decide +kernel
set_option maxRecDepth 100000 in
theorem mc_233 : mIn 233 := in_t7 (List.mem_of_getElem? (i := 5) rfl) rfl
set_option maxRecDepth 100000 in
theorem mv_233 : mWd 233 := ⟨in_t1 (List.mem_of_getElem? (i := 10) rfl) rfl, ⟨in_t7 (List.mem_of_getElem? (i := 3) rfl) rfl, in_t7 (List.mem_of_getElem? (i := 4) rfl) rfl⟩⟩
theorem mo_233 : mOk 233 = true := by decide +kernel
set_option maxRecDepth 100000 in
theorem mc_234 : mIn 234 := in_t7 (List.mem_of_getElem? (i := 9) rfl) rfl
set_option maxRecDepth 100000 in
theorem mv_234 : mWd 234 := ⟨in_t1 (List.mem_of_getElem? (i := 10) rfl) rfl, ⟨in_t7 (List.mem_of_getElem? (i := 7) rfl) rfl, in_t7 (List.mem_of_getElem? (i := 8) rfl) rfl⟩⟩
theorem mo_234 : mOk 234 = true := by decide +kernel
set_option maxRecDepth 100000 in
theorem mc_235 : mIn 235 := in_t7 (List.mem_of_getElem? (i := 13) rfl) rfl
set_option maxRecDepth 100000 in
theorem mv_235 : mWd 235 := ⟨in_t1 (List.mem_of_getElem? (i := 10) rfl) rfl, ⟨in_t7 (List.mem_of_getElem? (i := 12) rfl) rfl, in_p (List.mem_of_getElem? (i := 77) rfl) rfl⟩⟩
theorem mo_235 : mOk 235 = true := by decide +kernel
set_option maxRecDepth 100000 in
theorem mc_236 : mIn 236 := in_t7 (List.mem_of_getElem? (i := 17) rfl) rfl
set_option maxRecDepth 100000 in
theorem mv_236 : mWd 236 := ⟨in_t1 (List.mem_of_getElem? (i := 10) rfl) rfl, ⟨in_t7 (List.mem_of_getElem? (i := 15) rfl) rfl, in_t7 (List.mem_of_getElem? (i := 16) rfl) rfl⟩⟩
theorem mo_236 : mOk 236 = true := by decide +kernel
set_option maxRecDepth 100000 in
theorem mc_237 : mIn 237 := in_t7 (List.mem_of_getElem? (i := 21) rfl) rfl
set_option maxRecDepth 100000 in
theorem mv_237 : mWd 237 := ⟨in_t1 (List.mem_of_getElem? (i := 10) rfl) rfl, ⟨in_t7 (List.mem_of_getElem? (i := 19) rfl) rfl, in_t7 (List.mem_of_getElem? (i := 20) rfl) rfl⟩⟩
theorem mo_237 : mOk 237 = true := by decide +kernel
set_option maxRecDepth 100000 in
theorem mc_238 : mIn 238 := in_t7 (List.mem_of_getElem? (i := 26) rfl) rfl
set_option maxRecDepth 100000 in
theorem mv_238 : mWd 238 := ⟨in_t1 (List.mem_of_getElem? (i := 10) rfl) rfl, ⟨in_t7 (List.mem_of_getElem? (i := 24) rfl) rfl, in_t7 (List.mem_of_getElem? (i := 25) rfl) rfl⟩⟩
theorem mo_238 : mOk 238 = true := by decide +kernel
set_option maxRecDepth 100000 in
theorem mc_239 : mIn 239 := in_t7 (List.mem_of_getElem? (i := 30) rfl) rfl
set_option maxRecDepth 100000 in
theorem mv_239 : mWd 239 := ⟨in_t1 (List.mem_of_getElem? (i := 10) rfl) rfl, ⟨in_t7 (List.mem_of_getElem? (i := 29) rfl) rfl, in_p (List.mem_of_getElem? (i := 78) rfl) rfl⟩⟩
theorem mo_239 : mOk 239 = true := by decide +kernel
set_option maxRecDepth 100000 in
theorem mc_240 : mIn 240 := in_t7 (List.mem_of_getElem? (i := 34) rfl) rfl
set_option maxRecDepth 100000 in
theorem mv_240 : mWd 240 := ⟨in_t1 (List.mem_of_getElem? (i := 10) rfl) rfl, ⟨in_t7 (List.mem_of_getElem? (i := 32) rfl) rfl, in_t7 (List.mem_of_getElem? (i := 33) rfl) rfl⟩⟩
theorem mo_240 : mOk 240 = true := by decide +kernel
set_option maxRecDepth 100000 in
theorem mc_241 : mIn 241 := in_t7 (List.mem_of_getElem? (i := 38) rfl) rfl
set_option maxRecDepth 100000 in
theorem mv_241 : mWd 241 := ⟨in_t1 (List.mem_of_getElem? (i := 10) rfl) rfl, ⟨in_t7 (List.mem_of_getElem? (i := 37) rfl) rfl, in_p (List.mem_of_getElem? (i := 79) rfl) rfl⟩⟩
theorem mo_241 : mOk 241 = true := by decide +kernel
set_option maxRecDepth 100000 in
theorem mc_242 : mIn 242 := in_t7 (List.mem_of_getElem? (i := 42) rfl) rfl
set_option maxRecDepth 100000 in
theorem mv_242 : mWd 242 := ⟨in_t1 (List.mem_of_getElem? (i := 10) rfl) rfl, ⟨in_t7 (List.mem_of_getElem? (i := 41) rfl) rfl, in_p (List.mem_of_getElem? (i := 80) rfl) rfl⟩⟩
theorem mo_242 : mOk 242 = true := by decide +kernel
set_option maxRecDepth 100000 in
theorem mc_243 : mIn 243 := in_t7 (List.mem_of_getElem? (i := 45) rfl) rfl
set_option maxRecDepth 100000 in
theorem mv_243 : mWd 243 := ⟨in_t1 (List.mem_of_getElem? (i := 10) rfl) rfl, in_t7 (List.mem_of_getElem? (i := 44) rfl) rfl⟩
theorem mo_243 : mOk 243 = true := by decide +kernel
set_option maxRecDepth 100000 in
theorem mc_244 : mIn 244 := in_t7 (List.mem_of_getElem? (i := 49) rfl) rfl
set_option maxRecDepth 100000 in
theorem mv_244 : mWd 244 := ⟨in_t1 (List.mem_of_getElem? (i := 10) rfl) rfl, ⟨in_t7 (List.mem_of_getElem? (i := 47) rfl) rfl, in_t7 (List.mem_of_getElem? (i := 48) rfl) rfl⟩⟩
theorem mo_244 : mOk 244 = true := by decide +kernel
set_option maxRecDepth 100000 in
theorem mc_245 : mIn 245 := in_t7 (List.mem_of_getElem? (i := 53) rfl) rfl
set_option maxRecDepth 100000 in
theorem mv_245 : mWd 245 := ⟨in_t1 (List.mem_of_getElem? (i := 10) rfl) rfl, in_t7 (List.mem_of_getElem? (i := 52) rfl) rfl⟩
theorem mo_245 : mOk 245 = true := by decide +kernel
set_option maxRecDepth 100000 in
theorem mc_246 : mIn 246 := in_t7 (List.mem_of_getElem? (i := 57) rfl) rfl
set_option maxRecDepth 100000 in
theorem mv_246 : mWd 246 := ⟨in_t1 (List.mem_of_getElem? (i := 10) rfl) rfl, ⟨in_t7 (List.mem_of_getElem? (i := 55) rfl) rfl, in_t7 (List.mem_of_getElem? (i := 56) rfl) rfl⟩⟩
theorem mo_246 : mOk 246 = true := by decide +kernel
set_option maxRecDepth 100000 in
theorem mc_247 : mIn 247 := in_t7 (List.mem_of_getElem? (i := 60) rfl) rfl
set_option maxRecDepth 100000 in
theorem mv_247 : mWd 247 := ⟨in_t1 (List.mem_of_getElem? (i := 10) rfl) rfl, in_t7 (List.mem_of_getElem? (i := 59) rfl) rfl⟩
theorem mo_247 : mOk 247 = true := by decide +kernel
set_option maxRecDepth 100000 in
theorem mc_248 : mIn 248 := in_t7 (List.mem_of_getElem? (i := 65) rfl) rfl
set_option maxRecDepth 100000 in
theorem mv_248 : mWd 248 := ⟨in_t1 (List.mem_of_getElem? (i := 10) rfl) rfl, ⟨in_t7 (List.mem_of_getElem? (i := 64) rfl) rfl, in_p (List.mem_of_getElem? (i := 81) rfl) rfl⟩⟩
theorem mo_248 : mOk 248 = true := by decide +kernel
set_option maxRecDepth 100000 in
theorem mc_249 : mIn 249 := in_t7 (List.mem_of_getElem? (i := 69) rfl) rfl
set_option maxRecDepth 100000 in
theorem mv_249 : mWd 249 := ⟨in_t1 (List.mem_of_getElem? (i := 10) rfl) rfl, ⟨in_t7 (List.mem_of_getElem? (i := 68) rfl) rfl, in_p (List.mem_of_getElem? (i := 82) rfl) rfl⟩⟩
theorem mo_249 : mOk 249 = true := by decide +kernel
set_option maxRecDepth 100000 in
theorem mc_250 : mIn 250 := in_t7 (List.mem_of_getElem? (i := 73) rfl) rfl
set_option maxRecDepth 100000 in
theorem mv_250 : mWd 250 := ⟨in_t1 (List.mem_of_getElem? (i := 10) rfl) rfl, ⟨in_t7 (List.mem_of_getElem? (i := 72) rfl) rfl, in_p (List.mem_of_getElem? (i := 83) rfl) rfl⟩⟩
theorem mo_250 : mOk 250 = true := by decide +kernel
set_option maxRecDepth 100000 in
theorem mc_251 : mIn 251 := in_t7 (List.mem_of_getElem? (i := 77) rfl) rfl
set_option maxRecDepth 100000 in
theorem mv_251 : mWd 251 := ⟨in_t1 (List.mem_of_getElem? (i := 10) rfl) rfl, ⟨in_t7 (List.mem_of_getElem? (i := 76) rfl) rfl, in_p (List.mem_of_getElem? (i := 84) rfl) rfl⟩⟩
theorem mo_251 : mOk 251 = true := by decide +kernel
set_option maxRecDepth 100000 in
theorem mc_252 : mIn 252 := in_t7 (List.mem_of_getElem? (i := 81) rfl) rfl
set_option maxRecDepth 100000 in
theorem mv_252 : mWd 252 := ⟨in_t1 (List.mem_of_getElem? (i := 10) rfl) rfl, ⟨in_t7 (List.mem_of_getElem? (i := 79) rfl) rfl, in_t7 (List.mem_of_getElem? (i := 80) rfl) rfl⟩⟩
theorem mo_252 : mOk 252 = true := by decide +kernel
set_option maxRecDepth 100000 in
theorem mc_253 : mIn 253 := in_t7 (List.mem_of_getElem? (i := 86) rfl) rfl
set_option maxRecDepth 100000 in
theorem mv_253 : mWd 253 := ⟨in_t1 (List.mem_of_getElem? (i := 10) rfl) rfl, ⟨in_t7 (List.mem_of_getElem? (i := 84) rfl) rfl, in_t7 (List.mem_of_getElem? (i := 85) rfl) rfl⟩⟩
theorem mo_253 : mOk 253 = true := by decide +kernel
set_option maxRecDepth 100000 in
theorem mc_254 : mIn 254 := in_t7 (List.mem_of_getElem? (i := 90) rfl) rfl
set_option maxRecDepth 100000 in
theorem mv_254 : mWd 254 := ⟨in_t1 (List.mem_of_getElem? (i := 10) rfl) rfl, ⟨in_t7 (List.mem_of_getElem? (i := 88) rfl) rfl, in_t7 (List.mem_of_getElem? (i := 89) rfl) rfl⟩⟩
theorem mo_254 : mOk 254 = true := by decide +kernel
set_option maxRecDepth 100000 in
theorem mc_255 : mIn 255 := in_t7 (List.mem_of_getElem? (i := 94) rfl) rfl
set_option maxRecDepth 100000 in
theorem mv_255 : mWd 255 := ⟨in_t1 (List.mem_of_getElem? (i := 10) rfl) rfl, ⟨in_t7 (List.mem_of_getElem? (i := 93) rfl) rfl, in_p (List.mem_of_getElem? (i := 85) rfl) rfl⟩⟩
theorem mo_255 : mOk 255 = true := by decide +kernel
set_option maxRecDepth 100000 in
theorem mc_256 : mIn 256 := in_t7 (List.mem_of_getElem? (i := 98) rfl) rfl
set_option maxRecDepth 100000 in
theorem mv_256 : mWd 256 := ⟨in_t1 (List.mem_of_getElem? (i := 10) rfl) rfl, ⟨in_t7 (List.mem_of_getElem? (i := 97) rfl) rfl, in_p (List.mem_of_getElem? (i := 86) rfl) rfl⟩⟩
theorem mo_256 : mOk 256 = true := by decide +kernel
set_option maxRecDepth 100000 in
theorem mc_257 : mIn 257 := in_t7 (List.mem_of_getElem? (i := 102) rfl) rfl
set_option maxRecDepth 100000 in
theorem mv_257 : mWd 257 := ⟨in_t1 (List.mem_of_getElem? (i := 10) rfl) rfl, ⟨in_t7 (List.mem_of_getElem? (i := 100) rfl) rfl, in_t7 (List.mem_of_getElem? (i := 101) rfl) rfl⟩⟩
theorem mo_257 : mOk 257 = true := by decide +kernel
set_option maxRecDepth 100000 in
theorem mc_258 : mIn 258 := in_t7 (List.mem_of_getElem? (i := 106) rfl) rfl
set_option maxRecDepth 100000 in
theorem mv_258 : mWd 258 := ⟨in_t1 (List.mem_of_getElem? (i := 10) rfl) rfl, ⟨in_t7 (List.mem_of_getElem? (i := 104) rfl) rfl, in_t7 (List.mem_of_getElem? (i := 105) rfl) rfl⟩⟩
theorem mo_258 : mOk 258 = true := by decide +kernel
set_option maxRecDepth 100000 in
theorem mc_259 : mIn 259 := in_t7 (List.mem_of_getElem? (i := 110) rfl) rfl
set_option maxRecDepth 100000 in
theorem mv_259 : mWd 259 := ⟨in_t1 (List.mem_of_getElem? (i := 10) rfl) rfl, ⟨in_t7 (List.mem_of_getElem? (i := 109) rfl) rfl, in_p (List.mem_of_getElem? (i := 87) rfl) rfl⟩⟩
theorem mo_259 : mOk 259 = true := by decide +kernel
set_option maxRecDepth 100000 in
theorem mc_260 : mIn 260 := in_t7 (List.mem_of_getElem? (i := 115) rfl) rfl
set_option maxRecDepth 100000 in
theorem mv_260 : mWd 260 := ⟨in_t1 (List.mem_of_getElem? (i := 10) rfl) rfl, ⟨in_t7 (List.mem_of_getElem? (i := 113) rfl) rfl, in_t7 (List.mem_of_getElem? (i := 114) rfl) rfl⟩⟩
theorem mo_260 : mOk 260 = true := by decide +kernel
set_option maxRecDepth 100000 in
theorem mc_261 : mIn 261 := in_t7 (List.mem_of_getElem? (i := 119) rfl) rfl
set_option maxRecDepth 100000 in
theorem mv_261 : mWd 261 := ⟨in_t1 (List.mem_of_getElem? (i := 10) rfl) rfl, ⟨in_t7 (List.mem_of_getElem? (i := 117) rfl) rfl, in_t7 (List.mem_of_getElem? (i := 118) rfl) rfl⟩⟩
theorem mo_261 : mOk 261 = true := by decide +kernel
set_option maxRecDepth 100000 in
theorem mc_262 : mIn 262 := in_t7 (List.mem_of_getElem? (i := 123) rfl) rfl
set_option maxRecDepth 100000 in
theorem mv_262 : mWd 262 := ⟨in_t1 (List.mem_of_getElem? (i := 10) rfl) rfl, ⟨in_t7 (List.mem_of_getElem? (i := 121) rfl) rfl, in_t7 (List.mem_of_getElem? (i := 122) rfl) rfl⟩⟩
theorem mo_262 : mOk 262 = true := by decide +kernel
set_option maxRecDepth 100000 in
theorem mc_263 : mIn 263 := in_t7 (List.mem_of_getElem? (i := 127) rfl) rfl
set_option maxRecDepth 100000 in
theorem mv_263 : mWd 263 := ⟨in_t1 (List.mem_of_getElem? (i := 10) rfl) rfl, ⟨in_t7 (List.mem_of_getElem? (i := 125) rfl) rfl, in_t7 (List.mem_of_getElem? (i := 126) rfl) rfl⟩⟩
theorem mo_263 : mOk 263 = true := by decide +kernel
set_option maxRecDepth 100000 in
theorem mc_264 : mIn 264 := in_t7 (List.mem_of_getElem? (i := 131) rfl) rfl
set_option maxRecDepth 100000 in
theorem mv_264 : mWd 264 := ⟨in_t1 (List.mem_of_getElem? (i := 10) rfl) rfl, ⟨in_t7 (List.mem_of_getElem? (i := 130) rfl) rfl, in_p (List.mem_of_getElem? (i := 88) rfl) rfl⟩⟩
theorem mo_264 : mOk 264 = true := by decide +kernel
set_option maxRecDepth 100000 in
theorem mc_265 : mIn 265 := in_t7 (List.mem_of_getElem? (i := 135) rfl) rfl
set_option maxRecDepth 100000 in
theorem mv_265 : mWd 265 := ⟨in_t1 (List.mem_of_getElem? (i := 10) rfl) rfl, ⟨in_t7 (List.mem_of_getElem? (i := 134) rfl) rfl, in_p (List.mem_of_getElem? (i := 89) rfl) rfl⟩⟩
theorem mo_265 : mOk 265 = true := by decide +kernel
set_option maxRecDepth 100000 in
theorem mc_266 : mIn 266 := in_t7 (List.mem_of_getElem? (i := 139) rfl) rfl
set_option maxRecDepth 100000 in
theorem mv_266 : mWd 266 := ⟨in_t1 (List.mem_of_getElem? (i := 10) rfl) rfl, ⟨in_t7 (List.mem_of_getElem? (i := 137) rfl) rfl, in_t7 (List.mem_of_getElem? (i := 138) rfl) rfl⟩⟩
theorem mo_266 : mOk 266 = true := by decide +kernel
set_option maxRecDepth 100000 in
theorem mc_267 : mIn 267 := in_t7 (List.mem_of_getElem? (i := 143) rfl) rfl
set_option maxRecDepth 100000 in
theorem mv_267 : mWd 267 := ⟨in_t1 (List.mem_of_getElem? (i := 10) rfl) rfl, ⟨in_t7 (List.mem_of_getElem? (i := 141) rfl) rfl, in_t7 (List.mem_of_getElem? (i := 142) rfl) rfl⟩⟩
theorem mo_267 : mOk 267 = true := by decide +kernel
set_option maxRecDepth 100000 in
theorem mc_268 : mIn 268 := in_t7 (List.mem_of_getElem? (i := 147) rfl) rfl
set_option maxRecDepth 100000 in
theorem mv_268 : mWd 268 := ⟨in_t1 (List.mem_of_getElem? (i := 10) rfl) rfl, ⟨in_t7 (List.mem_of_getElem? (i := 145) rfl) rfl, in_t7 (List.mem_of_getElem? (i := 146) rfl) rfl⟩⟩
theorem mo_268 : mOk 268 = true := by decide +kernel
set_option maxRecDepth 100000 in
theorem mc_269 : mIn 269 := in_t7 (List.mem_of_getElem? (i := 151) rfl) rfl
set_option maxRecDepth 100000 in
theorem mv_269 : mWd 269 := ⟨in_t1 (List.mem_of_getElem? (i := 10) rfl) rfl, ⟨in_t7 (List.mem_of_getElem? (i := 150) rfl) rfl, in_p (List.mem_of_getElem? (i := 90) rfl) rfl⟩⟩
theorem mo_269 : mOk 269 = true := by decide +kernel
set_option maxRecDepth 100000 in
theorem mc_270 : mIn 270 := in_t7 (List.mem_of_getElem? (i := 156) rfl) rfl
set_option maxRecDepth 100000 in
theorem mv_270 : mWd 270 := ⟨in_t1 (List.mem_of_getElem? (i := 10) rfl) rfl, ⟨in_t7 (List.mem_of_getElem? (i := 154) rfl) rfl, in_t7 (List.mem_of_getElem? (i := 155) rfl) rfl⟩⟩
theorem mo_270 : mOk 270 = true := by decide +kernel
set_option maxRecDepth 100000 in
theorem mc_271 : mIn 271 := in_t7 (List.mem_of_getElem? (i := 161) rfl) rfl
set_option maxRecDepth 100000 in
theorem mv_271 : mWd 271 := ⟨in_t1 (List.mem_of_getElem? (i := 10) rfl) rfl, ⟨in_t7 (List.mem_of_getElem? (i := 159) rfl) rfl, in_t7 (List.mem_of_getElem? (i := 160) rfl) rfl⟩⟩
theorem mo_271 : mOk 271 = true := by decide +kernel
set_option maxRecDepth 100000 in
theorem mc_272 : mIn 272 := in_t7 (List.mem_of_getElem? (i := 165) rfl) rfl
set_option maxRecDepth 100000 in
theorem mv_272 : mWd 272 := ⟨in_t1 (List.mem_of_getElem? (i := 10) rfl) rfl, ⟨in_t7 (List.mem_of_getElem? (i := 163) rfl) rfl, in_t7 (List.mem_of_getElem? (i := 164) rfl) rfl⟩⟩
theorem mo_272 : mOk 272 = true := by decide +kernel
set_option maxRecDepth 100000 in
theorem mc_273 : mIn 273 := in_t7 (List.mem_of_getElem? (i := 170) rfl) rfl
set_option maxRecDepth 100000 in
theorem mv_273 : mWd 273 := ⟨in_t1 (List.mem_of_getElem? (i := 10) rfl) rfl, ⟨in_t7 (List.mem_of_getElem? (i := 168) rfl) rfl, in_t7 (List.mem_of_getElem? (i := 169) rfl) rfl⟩⟩
theorem mo_273 : mOk 273 = true := by decide +kernel
set_option maxRecDepth 100000 in
theorem mc_274 : mIn 274 := in_t7 (List.mem_of_getElem? (i := 174) rfl) rfl
set_option maxRecDepth 100000 in
theorem mv_274 : mWd 274 := ⟨in_t1 (List.mem_of_getElem? (i := 10) rfl) rfl, ⟨in_t7 (List.mem_of_getElem? (i := 172) rfl) rfl, in_t7 (List.mem_of_getElem? (i := 173) rfl) rfl⟩⟩
theorem mo_274 : mOk 274 = true := by decide +kernel
set_option maxRecDepth 100000 in
theorem mc_275 : mIn 275 := in_t7 (List.mem_of_getElem? (i := 178) rfl) rfl
set_option maxRecDepth 100000 in
theorem mv_275 : mWd 275 := ⟨in_t1 (List.mem_of_getElem? (i := 10) rfl) rfl, ⟨in_t7 (List.mem_of_getElem? (i := 176) rfl) rfl, in_t7 (List.mem_of_getElem? (i := 177) rfl) rfl⟩⟩
theorem mo_275 : mOk 275 = true := by decide +kernel
set_option maxRecDepth 100000 in
theorem mc_276 : mIn 276 := in_t7 (List.mem_of_getElem? (i := 181) rfl) rfl
set_option maxRecDepth 100000 in
theorem mv_276 : mWd 276 := ⟨in_t1 (List.mem_of_getElem? (i := 10) rfl) rfl, in_t7 (List.mem_of_getElem? (i := 180) rfl) rfl⟩
theorem mo_276 : mOk 276 = true := by decide +kernel
set_option maxRecDepth 100000 in
theorem mc_277 : mIn 277 := in_t7 (List.mem_of_getElem? (i := 185) rfl) rfl
set_option maxRecDepth 100000 in
theorem mv_277 : mWd 277 := ⟨in_t1 (List.mem_of_getElem? (i := 10) rfl) rfl, ⟨in_t7 (List.mem_of_getElem? (i := 183) rfl) rfl, in_t7 (List.mem_of_getElem? (i := 184) rfl) rfl⟩⟩
theorem mo_277 : mOk 277 = true := by decide +kernel
set_option maxRecDepth 100000 in
theorem mc_278 : mIn 278 := in_t7 (List.mem_of_getElem? (i := 189) rfl) rfl
set_option maxRecDepth 100000 in
theorem mv_278 : mWd 278 := ⟨in_t1 (List.mem_of_getElem? (i := 10) rfl) rfl, ⟨in_t7 (List.mem_of_getElem? (i := 187) rfl) rfl, in_t7 (List.mem_of_getElem? (i := 188) rfl) rfl⟩⟩
theorem mo_278 : mOk 278 = true := by decide +kernel
set_option maxRecDepth 100000 in
theorem mc_279 : mIn 279 := in_t7 (List.mem_of_getElem? (i := 193) rfl) rfl
set_option maxRecDepth 100000 in
theorem mv_279 : mWd 279 := ⟨in_t1 (List.mem_of_getElem? (i := 10) rfl) rfl, ⟨in_t7 (List.mem_of_getElem? (i := 191) rfl) rfl, in_t7 (List.mem_of_getElem? (i := 192) rfl) rfl⟩⟩
theorem mo_279 : mOk 279 = true := by decide +kernel
set_option maxRecDepth 100000 in
theorem mc_280 : mIn 280 := in_t7 (List.mem_of_getElem? (i := 197) rfl) rfl
set_option maxRecDepth 100000 in
theorem mv_280 : mWd 280 := ⟨in_t1 (List.mem_of_getElem? (i := 10) rfl) rfl, ⟨in_t7 (List.mem_of_getElem? (i := 196) rfl) rfl, in_p (List.mem_of_getElem? (i := 91) rfl) rfl⟩⟩
theorem mo_280 : mOk 280 = true := by decide +kernel
set_option maxRecDepth 100000 in
theorem mc_281 : mIn 281 := in_t7 (List.mem_of_getElem? (i := 202) rfl) rfl
set_option maxRecDepth 100000 in
theorem mv_281 : mWd 281 := ⟨in_t1 (List.mem_of_getElem? (i := 10) rfl) rfl, ⟨in_t7 (List.mem_of_getElem? (i := 200) rfl) rfl, in_t7 (List.mem_of_getElem? (i := 201) rfl) rfl⟩⟩
theorem mo_281 : mOk 281 = true := by decide +kernel
set_option maxRecDepth 100000 in
theorem mc_282 : mIn 282 := in_t7 (List.mem_of_getElem? (i := 206) rfl) rfl
set_option maxRecDepth 100000 in
theorem mv_282 : mWd 282 := ⟨in_t1 (List.mem_of_getElem? (i := 10) rfl) rfl, ⟨in_t7 (List.mem_of_getElem? (i := 204) rfl) rfl, in_t7 (List.mem_of_getElem? (i := 205) rfl) rfl⟩⟩
theorem mo_282 : mOk 282 = true := by decide +kernel
set_option maxRecDepth 100000 in
theorem mc_283 : mIn 283 := in_t7 (List.mem_of_getElem? (i := 210) rfl) rfl
set_option maxRecDepth 100000 in
theorem mv_283 : mWd 283 := ⟨in_t1 (List.mem_of_getElem? (i := 10) rfl) rfl, ⟨in_t7 (List.mem_of_getElem? (i := 208) rfl) rfl, in_t7 (List.mem_of_getElem? (i := 209) rfl) rfl⟩⟩
theorem mo_283 : mOk 283 = true := by decide +kernel
set_option maxRecDepth 100000 in
theorem mc_284 : mIn 284 := in_t7 (List.mem_of_getElem? (i := 215) rfl) rfl
set_option maxRecDepth 100000 in
theorem mv_284 : mWd 284 := ⟨in_t1 (List.mem_of_getElem? (i := 10) rfl) rfl, ⟨in_t7 (List.mem_of_getElem? (i := 214) rfl) rfl, in_p (List.mem_of_getElem? (i := 92) rfl) rfl⟩⟩
theorem mo_284 : mOk 284 = true := by decide +kernel
set_option maxRecDepth 100000 in
theorem mc_285 : mIn 285 := in_t7 (List.mem_of_getElem? (i := 219) rfl) rfl
set_option maxRecDepth 100000 in
theorem mv_285 : mWd 285 := ⟨in_t1 (List.mem_of_getElem? (i := 10) rfl) rfl, ⟨in_t7 (List.mem_of_getElem? (i := 217) rfl) rfl, in_t7 (List.mem_of_getElem? (i := 218) rfl) rfl⟩⟩
theorem mo_285 : mOk 285 = true := by decide +kernel
set_option maxRecDepth 100000 in
theorem mc_286 : mIn 286 := in_t7 (List.mem_of_getElem? (i := 223) rfl) rfl
set_option maxRecDepth 100000 in
theorem mv_286 : mWd 286 := ⟨in_t1 (List.mem_of_getElem? (i := 10) rfl) rfl, ⟨in_t7 (List.mem_of_getElem? (i := 222) rfl) rfl, in_p (List.mem_of_getElem? (i := 93) rfl) rfl⟩⟩
theorem mo_286 : mOk 286 = true := by decide +kernel
set_option maxRecDepth 100000 in
theorem mc_287 : mIn 287 := in_t7 (List.mem_of_getElem? (i := 227) rfl) rfl
set_option maxRecDepth 100000 in
theorem mv_287 : mWd 287 := ⟨in_t1 (List.mem_of_getElem? (i := 10) rfl) rfl, ⟨in_t7 (List.mem_of_getElem? (i := 226) rfl) rfl, in_p (List.mem_of_getElem? (i := 94) rfl) rfl⟩⟩
theorem mo_287 : mOk 287 = true := by decide +kernel
set_option maxRecDepth 100000 in
theorem mc_288 : mIn 288 := in_t7 (List.mem_of_getElem? (i := 231) rfl) rfl
set_option maxRecDepth 100000 in
theorem mv_288 : mWd 288 := ⟨in_t1 (List.mem_of_getElem? (i := 10) rfl) rfl, ⟨in_t7 (List.mem_of_getElem? (i := 230) rfl) rfl, in_p (List.mem_of_getElem? (i := 95) rfl) rfl⟩⟩
theorem mo_288 : mOk 288 = true := by decide +kernel
set_option maxRecDepth 100000 in
theorem mc_289 : mIn 289 := in_t7 (List.mem_of_getElem? (i := 235) rfl) rfl
set_option maxRecDepth 100000 in
theorem mv_289 : mWd 289 := ⟨in_t1 (List.mem_of_getElem? (i := 10) rfl) rfl, ⟨in_t7 (List.mem_of_getElem? (i := 234) rfl) rfl, in_p (List.mem_of_getElem? (i := 96) rfl) rfl⟩⟩
theorem mo_289 : mOk 289 = true := by decide +kernel
set_option maxRecDepth 100000 in
theorem mc_290 : mIn 290 := in_t7 (List.mem_of_getElem? (i := 239) rfl) rfl
set_option maxRecDepth 100000 in
theorem mv_290 : mWd 290 := ⟨in_t1 (List.mem_of_getElem? (i := 10) rfl) rfl, ⟨in_t7 (List.mem_of_getElem? (i := 238) rfl) rfl, in_p (List.mem_of_getElem? (i := 97) rfl) rfl⟩⟩
theorem mo_290 : mOk 290 = true := by decide +kernel
set_option maxRecDepth 100000 in
theorem mc_291 : mIn 291 := in_t8 (List.mem_of_getElem? (i := 3) rfl) rfl
set_option maxRecDepth 100000 in
theorem mv_291 : mWd 291 := ⟨in_t1 (List.mem_of_getElem? (i := 10) rfl) rfl, ⟨in_t8 (List.mem_of_getElem? (i := 1) rfl) rfl, in_t8 (List.mem_of_getElem? (i := 2) rfl) rfl⟩⟩
theorem mo_291 : mOk 291 = true := by decide +kernel
set_option maxRecDepth 100000 in
theorem mc_292 : mIn 292 := in_t8 (List.mem_of_getElem? (i := 7) rfl) rfl
set_option maxRecDepth 100000 in
theorem mv_292 : mWd 292 := ⟨in_t1 (List.mem_of_getElem? (i := 10) rfl) rfl, ⟨in_t8 (List.mem_of_getElem? (i := 5) rfl) rfl, in_t8 (List.mem_of_getElem? (i := 6) rfl) rfl⟩⟩
theorem mo_292 : mOk 292 = true := by decide +kernel
set_option maxRecDepth 100000 in
theorem mc_293 : mIn 293 := in_t8 (List.mem_of_getElem? (i := 11) rfl) rfl
set_option maxRecDepth 100000 in
theorem mv_293 : mWd 293 := ⟨in_t1 (List.mem_of_getElem? (i := 10) rfl) rfl, ⟨in_t8 (List.mem_of_getElem? (i := 9) rfl) rfl, in_t8 (List.mem_of_getElem? (i := 10) rfl) rfl⟩⟩
theorem mo_293 : mOk 293 = true := by decide +kernel
set_option maxRecDepth 100000 in
theorem mc_294 : mIn 294 := in_t8 (List.mem_of_getElem? (i := 15) rfl) rfl
set_option maxRecDepth 100000 in
theorem mv_294 : mWd 294 := ⟨in_t1 (List.mem_of_getElem? (i := 10) rfl) rfl, ⟨in_t8 (List.mem_of_getElem? (i := 13) rfl) rfl, in_t8 (List.mem_of_getElem? (i := 14) rfl) rfl⟩⟩
theorem mo_294 : mOk 294 = true := by decide +kernel
set_option maxRecDepth 100000 in
theorem wd_0 : Jvm.Cond.methodLink "PlayedTruthLaw" 9 ⟨"PlayedTruth", "<init>", "()V"⟩ ∈ tbl := in_t1 (List.mem_of_getElem? (i := 21) rfl) rfl
set_option maxRecDepth 100000 in
theorem wd_1 : Jvm.Cond.methodLink "PlayedTruth" 1 ⟨"java/lang/Object", "<init>", "()V"⟩ ∈ tbl := in_t1 (List.mem_of_getElem? (i := 24) rfl) rfl
set_option maxRecDepth 100000 in
theorem wd_2 : Jvm.Cond.methodLink "PlayedTruth" 9 ⟨"PlayedTruth$Stage", "<init>", "()V"⟩ ∈ tbl := in_t1 (List.mem_of_getElem? (i := 29) rfl) rfl
set_option maxRecDepth 100000 in
theorem wd_3 : Jvm.Cond.methodLink "PlayedTruth$Stage" 3 ⟨"java/lang/Object", "<init>", "()V"⟩ ∈ tbl := in_t1 (List.mem_of_getElem? (i := 32) rfl) rfl
set_option maxRecDepth 100000 in
theorem wd_4 : Jvm.Cond.methodLink "PlayedTruth$Rules" 5 ⟨"java/lang/Object", "<init>", "()V"⟩ ∈ tbl := in_t1 (List.mem_of_getElem? (i := 38) rfl) rfl
set_option maxRecDepth 100000 in
theorem wd_5 : Jvm.Cond.fieldLink "PlayedTruth$Rules" 13 "PlayedTruth$Rules" "kind" "[I" ∈ tbl := in_t1 (List.mem_of_getElem? (i := 39) rfl) rfl
set_option maxRecDepth 100000 in
theorem wd_6 : Jvm.Cond.fieldLink "PlayedTruth$Rules" 17 "PlayedTruth$Rules" "deed" "[I" ∈ tbl := in_t1 (List.mem_of_getElem? (i := 40) rfl) rfl
set_option maxRecDepth 100000 in
theorem wd_7 : Jvm.Cond.fieldLink "PlayedTruth$Rules" 20 "PlayedTruth$Rules" "behind" "[I" ∈ tbl := in_t1 (List.mem_of_getElem? (i := 41) rfl) rfl
set_option maxRecDepth 100000 in
theorem wd_8 : Jvm.Cond.fieldLink "PlayedTruth$Rules" 23 "PlayedTruth$Rules" "steps" "[I" ∈ tbl := in_t1 (List.mem_of_getElem? (i := 42) rfl) rfl
set_option maxRecDepth 100000 in
theorem wd_9 : Jvm.Cond.fieldLink "PlayedTruth$Rules" 26 "PlayedTruth$Rules" "stepCount" "I" ∈ tbl := in_t1 (List.mem_of_getElem? (i := 43) rfl) rfl
set_option maxRecDepth 100000 in
theorem wd_10 : Jvm.Cond.fieldLink "PlayedTruth$Rules" 30 "PlayedTruth$Rules" "count" "I" ∈ tbl := in_t1 (List.mem_of_getElem? (i := 44) rfl) rfl
set_option maxRecDepth 100000 in
theorem wd_11 : Jvm.Cond.fieldLink "PlayedTruth$RuleReader" 91 "PlayedTruth$Rules" "count" "I" ∈ tbl := in_t1 (List.mem_of_getElem? (i := 45) rfl) rfl
set_option maxRecDepth 100000 in
theorem wd_12 : Jvm.Cond.fieldLink "PlayedTruth$Stage" 97 "PlayedTruth$Rules" "count" "I" ∈ tbl := in_t1 (List.mem_of_getElem? (i := 46) rfl) rfl
set_option maxRecDepth 100000 in
theorem wd_13 : Jvm.Cond.fieldLink "PlayedTruth" 200 "PlayedTruth$Rules" "count" "I" ∈ tbl := in_t1 (List.mem_of_getElem? (i := 47) rfl) rfl
set_option maxRecDepth 100000 in
theorem wd_14 : Jvm.Cond.fieldLink "PlayedTruth$Stage" 9 "PlayedTruth$Stage" "kind" "[I" ∈ tbl := in_t1 (List.mem_of_getElem? (i := 62) rfl) rfl
set_option maxRecDepth 100000 in
theorem wd_15 : Jvm.Cond.fieldLink "PlayedTruth" 94 "PlayedTruth$Stage" "kind" "[I" ∈ tbl := in_t1 (List.mem_of_getElem? (i := 63) rfl) rfl
set_option maxRecDepth 100000 in
theorem wd_16 : Jvm.Cond.fieldLink "PlayedTruth$Stage" 15 "PlayedTruth$Stage" "place" "[I" ∈ tbl := in_t1 (List.mem_of_getElem? (i := 64) rfl) rfl
set_option maxRecDepth 100000 in
theorem wd_17 : Jvm.Cond.fieldLink "PlayedTruth" 97 "PlayedTruth$Stage" "place" "[I" ∈ tbl := in_t1 (List.mem_of_getElem? (i := 65) rfl) rfl
set_option maxRecDepth 100000 in
theorem wd_18 : Jvm.Cond.fieldLink "PlayedTruth$Stage" 18 "PlayedTruth$Stage" "houses" "[I" ∈ tbl := in_t1 (List.mem_of_getElem? (i := 66) rfl) rfl
set_option maxRecDepth 100000 in
theorem wd_19 : Jvm.Cond.fieldLink "PlayedTruth" 140 "PlayedTruth$Stage" "houses" "[I" ∈ tbl := in_t1 (List.mem_of_getElem? (i := 67) rfl) rfl
set_option maxRecDepth 100000 in
theorem wd_20 : Jvm.Cond.fieldLink "PlayedTruth$Stage" 21 "PlayedTruth$Stage" "light" "[I" ∈ tbl := in_t1 (List.mem_of_getElem? (i := 68) rfl) rfl
set_option maxRecDepth 100000 in
theorem wd_21 : Jvm.Cond.fieldLink "PlayedTruth" 143 "PlayedTruth$Stage" "light" "[I" ∈ tbl := in_t1 (List.mem_of_getElem? (i := 69) rfl) rfl
set_option maxRecDepth 100000 in
theorem wd_22 : Jvm.Cond.fieldLink "PlayedTruth$Stage" 24 "PlayedTruth$Stage" "noise" "[I" ∈ tbl := in_t1 (List.mem_of_getElem? (i := 70) rfl) rfl
set_option maxRecDepth 100000 in
theorem wd_23 : Jvm.Cond.fieldLink "PlayedTruth" 146 "PlayedTruth$Stage" "noise" "[I" ∈ tbl := in_t1 (List.mem_of_getElem? (i := 71) rfl) rfl
set_option maxRecDepth 100000 in
theorem wd_24 : Jvm.Cond.fieldLink "PlayedTruth$Stage" 30 "PlayedTruth$Stage" "rules" "LPlayedTruth$Rules;" ∈ tbl := in_t1 (List.mem_of_getElem? (i := 72) rfl) rfl
set_option maxRecDepth 100000 in
theorem wd_25 : Jvm.Cond.fieldLink "PlayedTruth" 187 "PlayedTruth$Stage" "rules" "LPlayedTruth$Rules;" ∈ tbl := in_t1 (List.mem_of_getElem? (i := 73) rfl) rfl
set_option maxRecDepth 100000 in
theorem wd_26 : Jvm.Cond.fieldLink "PlayedTruth$Stage" 34 "PlayedTruth$Stage" "facts" "[I" ∈ tbl := in_t1 (List.mem_of_getElem? (i := 74) rfl) rfl
set_option maxRecDepth 100000 in
theorem wd_27 : Jvm.Cond.fieldLink "PlayedTruth$Stage" 37 "PlayedTruth$Stage" "scenes" "I" ∈ tbl := in_t1 (List.mem_of_getElem? (i := 75) rfl) rfl
set_option maxRecDepth 100000 in
theorem wd_28 : Jvm.Cond.fieldLink "PlayedTruth" 91 "PlayedTruth$Stage" "scenes" "I" ∈ tbl := in_t1 (List.mem_of_getElem? (i := 76) rfl) rfl
set_option maxRecDepth 100000 in
theorem wd_29 : Jvm.Cond.fieldLink "PlayedTruth$Ahead" 133 "PlayedTruth$Stage" "scenes" "I" ∈ tbl := in_t1 (List.mem_of_getElem? (i := 77) rfl) rfl
set_option maxRecDepth 100000 in
theorem wd_30 : Jvm.Cond.fieldLink "PlayedTruth$Stage" 41 "PlayedTruth$Stage" "end" "I" ∈ tbl := in_t1 (List.mem_of_getElem? (i := 78) rfl) rfl
set_option maxRecDepth 100000 in
theorem wd_31 : Jvm.Cond.fieldLink "PlayedTruth$Ahead" 109 "PlayedTruth$Stage" "end" "I" ∈ tbl := in_t1 (List.mem_of_getElem? (i := 79) rfl) rfl
set_option maxRecDepth 100000 in
theorem wd_32 : Jvm.Cond.fieldLink "PlayedTruth" 152 "PlayedTruth$Stage" "end" "I" ∈ tbl := in_t1 (List.mem_of_getElem? (i := 80) rfl) rfl
set_option maxRecDepth 100000 in
theorem wd_33 : Jvm.Cond.methodLink "PlayedTruth$Moment" 3 ⟨"java/lang/Object", "<init>", "()V"⟩ ∈ tbl := in_t1 (List.mem_of_getElem? (i := 105) rfl) rfl
set_option maxRecDepth 100000 in
theorem wd_34 : Jvm.Cond.fieldLink "PlayedTruth$Moment" 9 "PlayedTruth$Moment" "truth" "[I" ∈ tbl := in_t1 (List.mem_of_getElem? (i := 106) rfl) rfl
set_option maxRecDepth 100000 in
theorem wd_35 : Jvm.Cond.fieldLink "PlayedTruth" 100 "PlayedTruth$Moment" "truth" "[I" ∈ tbl := in_t1 (List.mem_of_getElem? (i := 107) rfl) rfl
set_option maxRecDepth 100000 in
theorem wd_36 : Jvm.Cond.fieldLink "PlayedTruth$Stage" 67 "PlayedTruth$Moment" "truth" "[I" ∈ tbl := in_t1 (List.mem_of_getElem? (i := 108) rfl) rfl
set_option maxRecDepth 100000 in
theorem wd_37 : Jvm.Cond.fieldLink "PlayedTruth$Moment" 15 "PlayedTruth$Moment" "pretty" "[I" ∈ tbl := in_t1 (List.mem_of_getElem? (i := 109) rfl) rfl
set_option maxRecDepth 100000 in
theorem wd_38 : Jvm.Cond.fieldLink "PlayedTruth" 103 "PlayedTruth$Moment" "pretty" "[I" ∈ tbl := in_t1 (List.mem_of_getElem? (i := 110) rfl) rfl
set_option maxRecDepth 100000 in
theorem wd_39 : Jvm.Cond.fieldLink "PlayedTruth$Stage" 86 "PlayedTruth$Moment" "pretty" "[I" ∈ tbl := in_t1 (List.mem_of_getElem? (i := 111) rfl) rfl
set_option maxRecDepth 100000 in
theorem wd_40 : Jvm.Cond.fieldLink "PlayedTruth$Moment" 18 "PlayedTruth$Moment" "settled" "I" ∈ tbl := in_t1 (List.mem_of_getElem? (i := 112) rfl) rfl
set_option maxRecDepth 100000 in
theorem wd_41 : Jvm.Cond.fieldLink "PlayedTruth" 137 "PlayedTruth$Moment" "settled" "I" ∈ tbl := in_t1 (List.mem_of_getElem? (i := 113) rfl) rfl
set_option maxRecDepth 100000 in
theorem wd_42 : Jvm.Cond.fieldLink "PlayedTruth$Ahead" 142 "PlayedTruth$Moment" "settled" "I" ∈ tbl := in_t1 (List.mem_of_getElem? (i := 114) rfl) rfl
set_option maxRecDepth 100000 in
theorem wd_43 : Jvm.Cond.fieldLink "PlayedTruth$Stage" 125 "PlayedTruth$Moment" "settled" "I" ∈ tbl := in_t1 (List.mem_of_getElem? (i := 115) rfl) rfl
set_option maxRecDepth 100000 in
theorem wd_44 : Jvm.Cond.fieldLink "PlayedTruth$Moment" 22 "PlayedTruth$Moment" "night" "I" ∈ tbl := in_t1 (List.mem_of_getElem? (i := 116) rfl) rfl
set_option maxRecDepth 100000 in
theorem wd_45 : Jvm.Cond.fieldLink "PlayedTruth$Stage" 54 "PlayedTruth$Moment" "night" "I" ∈ tbl := in_t1 (List.mem_of_getElem? (i := 117) rfl) rfl
set_option maxRecDepth 100000 in
theorem wd_46 : Jvm.Cond.fieldLink "PlayedTruth$Ahead" 84 "PlayedTruth$Moment" "night" "I" ∈ tbl := in_t1 (List.mem_of_getElem? (i := 118) rfl) rfl
set_option maxRecDepth 100000 in
theorem wd_47 : Jvm.Cond.fieldLink "PlayedTruth" 149 "PlayedTruth$Moment" "night" "I" ∈ tbl := in_t1 (List.mem_of_getElem? (i := 119) rfl) rfl
set_option maxRecDepth 100000 in
theorem wd_48 : Jvm.Cond.fieldLink "PlayedTruth$Moment" 25 "PlayedTruth$Moment" "score" "I" ∈ tbl := in_t1 (List.mem_of_getElem? (i := 120) rfl) rfl
set_option maxRecDepth 100000 in
theorem wd_49 : Jvm.Cond.fieldLink "PlayedTruth$Ahead" 77 "PlayedTruth$Moment" "score" "I" ∈ tbl := in_t1 (List.mem_of_getElem? (i := 121) rfl) rfl
set_option maxRecDepth 100000 in
theorem wd_50 : Jvm.Cond.fieldLink "PlayedTruth" 155 "PlayedTruth$Moment" "score" "I" ∈ tbl := in_t1 (List.mem_of_getElem? (i := 122) rfl) rfl
set_option maxRecDepth 100000 in
theorem wd_51 : Jvm.Cond.fieldLink "PlayedTruth$Stage" 119 "PlayedTruth$Moment" "score" "I" ∈ tbl := in_t1 (List.mem_of_getElem? (i := 123) rfl) rfl
set_option maxRecDepth 100000 in
theorem wd_52 : Jvm.Cond.fieldLink "PlayedTruth$Moment" 28 "PlayedTruth$Moment" "seed" "I" ∈ tbl := in_t1 (List.mem_of_getElem? (i := 124) rfl) rfl
set_option maxRecDepth 100000 in
theorem wd_53 : Jvm.Cond.fieldLink "PlayedTruth$Ahead" 90 "PlayedTruth$Moment" "seed" "I" ∈ tbl := in_t1 (List.mem_of_getElem? (i := 125) rfl) rfl
set_option maxRecDepth 100000 in
theorem wd_54 : Jvm.Cond.fieldLink "PlayedTruth$Stage" 131 "PlayedTruth$Moment" "seed" "I" ∈ tbl := in_t1 (List.mem_of_getElem? (i := 126) rfl) rfl
set_option maxRecDepth 100000 in
theorem wd_55 : Jvm.Cond.fieldLink "PlayedTruth" 307 "PlayedTruth$Moment" "seed" "I" ∈ tbl := in_t1 (List.mem_of_getElem? (i := 127) rfl) rfl
set_option maxRecDepth 100000 in
theorem wd_56 : Jvm.Cond.methodLink "PlayedTruth$Strangers" 3 ⟨"java/lang/Object", "<init>", "()V"⟩ ∈ tbl := in_t1 (List.mem_of_getElem? (i := 146) rfl) rfl
set_option maxRecDepth 100000 in
theorem wd_57 : Jvm.Cond.fieldLink "PlayedTruth$Strangers" 11 "PlayedTruth$Strangers" "nights" "[I" ∈ tbl := in_t1 (List.mem_of_getElem? (i := 147) rfl) rfl
set_option maxRecDepth 100000 in
theorem wd_58 : Jvm.Cond.fieldLink "PlayedTruth$Strangers" 15 "PlayedTruth$Strangers" "asked" "[I" ∈ tbl := in_t1 (List.mem_of_getElem? (i := 148) rfl) rfl
set_option maxRecDepth 100000 in
theorem wd_59 : Jvm.Cond.fieldLink "PlayedTruth$Strangers" 18 "PlayedTruth$Strangers" "least" "[I" ∈ tbl := in_t1 (List.mem_of_getElem? (i := 149) rfl) rfl
set_option maxRecDepth 100000 in
theorem wd_60 : Jvm.Cond.fieldLink "PlayedTruth$Strangers" 21 "PlayedTruth$Strangers" "most" "[I" ∈ tbl := in_t1 (List.mem_of_getElem? (i := 150) rfl) rfl
set_option maxRecDepth 100000 in
theorem wd_61 : Jvm.Cond.fieldLink "PlayedTruth$Strangers" 24 "PlayedTruth$Strangers" "count" "I" ∈ tbl := in_t1 (List.mem_of_getElem? (i := 151) rfl) rfl
set_option maxRecDepth 100000 in
theorem wd_62 : Jvm.Cond.fieldLink "PlayedTruth" 287 "PlayedTruth$Strangers" "count" "I" ∈ tbl := in_t1 (List.mem_of_getElem? (i := 152) rfl) rfl
set_option maxRecDepth 100000 in
theorem wd_63 : Jvm.Cond.fieldLink "PlayedTruth$Strangers" 28 "PlayedTruth$Strangers" "fits" "I" ∈ tbl := in_t1 (List.mem_of_getElem? (i := 153) rfl) rfl
set_option maxRecDepth 100000 in
theorem wd_64 : Jvm.Cond.fieldLink "PlayedTruth" 292 "PlayedTruth$Strangers" "fits" "I" ∈ tbl := in_t1 (List.mem_of_getElem? (i := 154) rfl) rfl
set_option maxRecDepth 100000 in
theorem wd_65 : Jvm.Cond.fieldLink "PlayedTruth$Strangers" 31 "PlayedTruth$Strangers" "firstKind" "I" ∈ tbl := in_t1 (List.mem_of_getElem? (i := 155) rfl) rfl
set_option maxRecDepth 100000 in
theorem wd_66 : Jvm.Cond.fieldLink "PlayedTruth" 295 "PlayedTruth$Strangers" "firstKind" "I" ∈ tbl := in_t1 (List.mem_of_getElem? (i := 156) rfl) rfl
set_option maxRecDepth 100000 in
theorem wd_67 : Jvm.Cond.fieldLink "PlayedTruth$Strangers" 34 "PlayedTruth$Strangers" "firstPretty" "I" ∈ tbl := in_t1 (List.mem_of_getElem? (i := 157) rfl) rfl
set_option maxRecDepth 100000 in
theorem wd_68 : Jvm.Cond.fieldLink "PlayedTruth" 298 "PlayedTruth$Strangers" "firstPretty" "I" ∈ tbl := in_t1 (List.mem_of_getElem? (i := 158) rfl) rfl
set_option maxRecDepth 100000 in
theorem wd_69 : Jvm.Cond.fieldLink "PlayedTruth$Strangers" 37 "PlayedTruth$Strangers" "firstTruth" "I" ∈ tbl := in_t1 (List.mem_of_getElem? (i := 159) rfl) rfl
set_option maxRecDepth 100000 in
theorem wd_70 : Jvm.Cond.fieldLink "PlayedTruth" 301 "PlayedTruth$Strangers" "firstTruth" "I" ∈ tbl := in_t1 (List.mem_of_getElem? (i := 160) rfl) rfl
set_option maxRecDepth 100000 in
theorem wd_71 : Jvm.Cond.fieldLink "PlayedTruth$Strangers" 40 "PlayedTruth$Strangers" "blamed" "I" ∈ tbl := in_t1 (List.mem_of_getElem? (i := 161) rfl) rfl
set_option maxRecDepth 100000 in
theorem wd_72 : Jvm.Cond.fieldLink "PlayedTruth" 304 "PlayedTruth$Strangers" "blamed" "I" ∈ tbl := in_t1 (List.mem_of_getElem? (i := 162) rfl) rfl
set_option maxRecDepth 100000 in
theorem wd_73 : Jvm.Cond.methodLink "PlayedTruth$RuleReader" 1 ⟨"java/lang/Object", "<init>", "()V"⟩ ∈ tbl := in_t1 (List.mem_of_getElem? (i := 189) rfl) rfl
set_option maxRecDepth 100000 in
theorem wd_74 : Jvm.Cond.fieldLink "PlayedTruth$RuleReader" 9 "PlayedTruth$RuleReader" "tape" "[I" ∈ tbl := in_t1 (List.mem_of_getElem? (i := 192) rfl) rfl
set_option maxRecDepth 100000 in
theorem wd_75 : Jvm.Cond.fieldLink "PlayedTruth$RuleReader" 13 "PlayedTruth$RuleReader" "size" "I" ∈ tbl := in_t1 (List.mem_of_getElem? (i := 193) rfl) rfl
set_option maxRecDepth 100000 in
theorem wd_76 : Jvm.Cond.fieldLink "PlayedTruth" 177 "PlayedTruth$RuleReader" "size" "I" ∈ tbl := in_t1 (List.mem_of_getElem? (i := 194) rfl) rfl
set_option maxRecDepth 100000 in
theorem wd_77 : Jvm.Cond.fieldLink "PlayedTruth$RuleReader" 20 "PlayedTruth$RuleReader" "draft" "LPlayedTruth$Rules;" ∈ tbl := in_t1 (List.mem_of_getElem? (i := 195) rfl) rfl
set_option maxRecDepth 100000 in
theorem wd_78 : Jvm.Cond.fieldLink "PlayedTruth" 191 "PlayedTruth$RuleReader" "draft" "LPlayedTruth$Rules;" ∈ tbl := in_t1 (List.mem_of_getElem? (i := 196) rfl) rfl
set_option maxRecDepth 100000 in
theorem wd_79 : Jvm.Cond.fieldLink "PlayedTruth$RuleReader" 24 "PlayedTruth$RuleReader" "fault" "I" ∈ tbl := in_t1 (List.mem_of_getElem? (i := 197) rfl) rfl
set_option maxRecDepth 100000 in
theorem wd_80 : Jvm.Cond.fieldLink "PlayedTruth" 184 "PlayedTruth$RuleReader" "fault" "I" ∈ tbl := in_t1 (List.mem_of_getElem? (i := 198) rfl) rfl
set_option maxRecDepth 100000 in
theorem wd_81 : Jvm.Cond.fieldLink "PlayedTruth$RuleReader" 27 "PlayedTruth$RuleReader" "tokens" "[I" ∈ tbl := in_t1 (List.mem_of_getElem? (i := 199) rfl) rfl
set_option maxRecDepth 100000 in
theorem wd_82 : Jvm.Cond.fieldLink "PlayedTruth$RuleReader" 30 "PlayedTruth$RuleReader" "starts" "[I" ∈ tbl := in_t1 (List.mem_of_getElem? (i := 200) rfl) rfl
set_option maxRecDepth 100000 in
theorem wd_83 : Jvm.Cond.fieldLink "PlayedTruth$RuleReader" 33 "PlayedTruth$RuleReader" "numbers" "[I" ∈ tbl := in_t1 (List.mem_of_getElem? (i := 201) rfl) rfl
set_option maxRecDepth 100000 in
theorem wd_84 : Jvm.Cond.fieldLink "PlayedTruth$RuleReader" 36 "PlayedTruth$RuleReader" "at" "I" ∈ tbl := in_t1 (List.mem_of_getElem? (i := 202) rfl) rfl
set_option maxRecDepth 100000 in
theorem wd_85 : Jvm.Cond.fieldLink "PlayedTruth$RuleReader" 39 "PlayedTruth$RuleReader" "token" "I" ∈ tbl := in_t1 (List.mem_of_getElem? (i := 203) rfl) rfl
set_option maxRecDepth 100000 in
theorem wd_86 : Jvm.Cond.methodLink "PlayedTruth" 39 ⟨"PlayedTruth$Ahead", "<init>", "(LPlayedTruth$Stage;LPlayedTruth$Moment;)V"⟩ ∈ tbl := in_t1 (List.mem_of_getElem? (i := 225) rfl) rfl
set_option maxRecDepth 100000 in
theorem wd_87 : Jvm.Cond.methodLink "PlayedTruth$Ahead" 3 ⟨"java/lang/Object", "<init>", "()V"⟩ ∈ tbl := in_t1 (List.mem_of_getElem? (i := 228) rfl) rfl
set_option maxRecDepth 100000 in
theorem wd_88 : Jvm.Cond.fieldLink "PlayedTruth$Ahead" 46 "PlayedTruth$Ahead" "stage" "LPlayedTruth$Stage;" ∈ tbl := in_t1 (List.mem_of_getElem? (i := 232) rfl) rfl
set_option maxRecDepth 100000 in
theorem wd_89 : Jvm.Cond.fieldLink "PlayedTruth$Ahead" 50 "PlayedTruth$Ahead" "now" "LPlayedTruth$Moment;" ∈ tbl := in_t1 (List.mem_of_getElem? (i := 233) rfl) rfl
set_option maxRecDepth 100000 in
theorem wd_90 : Jvm.Cond.fieldLink "PlayedTruth$Ahead" 11 "PlayedTruth$Ahead" "moments" "[LPlayedTruth$Moment;" ∈ tbl := in_t1 (List.mem_of_getElem? (i := 234) rfl) rfl
set_option maxRecDepth 100000 in
theorem wd_91 : Jvm.Cond.fieldLink "PlayedTruth$Ahead" 17 "PlayedTruth$Ahead" "acts" "[I" ∈ tbl := in_t1 (List.mem_of_getElem? (i := 235) rfl) rfl
set_option maxRecDepth 100000 in
theorem wd_92 : Jvm.Cond.fieldLink "PlayedTruth$Ahead" 21 "PlayedTruth$Ahead" "wanted" "I" ∈ tbl := in_t1 (List.mem_of_getElem? (i := 236) rfl) rfl
set_option maxRecDepth 100000 in
theorem wd_93 : Jvm.Cond.fieldLink "PlayedTruth$Ahead" 25 "PlayedTruth$Ahead" "nights" "I" ∈ tbl := in_t1 (List.mem_of_getElem? (i := 237) rfl) rfl
set_option maxRecDepth 100000 in
theorem wd_94 : Jvm.Cond.fieldLink "PlayedTruth" 256 "PlayedTruth$Ahead" "nights" "I" ∈ tbl := in_t1 (List.mem_of_getElem? (i := 238) rfl) rfl
set_option maxRecDepth 100000 in
theorem wd_95 : Jvm.Cond.fieldLink "PlayedTruth$Ahead" 28 "PlayedTruth$Ahead" "best" "I" ∈ tbl := in_t1 (List.mem_of_getElem? (i := 239) rfl) rfl
set_option maxRecDepth 100000 in
theorem wd_96 : Jvm.Cond.fieldLink "PlayedTruth" 253 "PlayedTruth$Ahead" "best" "I" ∈ tbl := in_t2 (List.mem_of_getElem? (i := 0) rfl) rfl
set_option maxRecDepth 100000 in
theorem wd_97 : Jvm.Cond.fieldLink "PlayedTruth$Ahead" 31 "PlayedTruth$Ahead" "ways" "I" ∈ tbl := in_t2 (List.mem_of_getElem? (i := 1) rfl) rfl
set_option maxRecDepth 100000 in
theorem wd_98 : Jvm.Cond.fieldLink "PlayedTruth" 262 "PlayedTruth$Ahead" "ways" "I" ∈ tbl := in_t2 (List.mem_of_getElem? (i := 2) rfl) rfl
set_option maxRecDepth 100000 in
theorem wd_99 : Jvm.Cond.fieldLink "PlayedTruth$Ahead" 34 "PlayedTruth$Ahead" "first" "[I" ∈ tbl := in_t2 (List.mem_of_getElem? (i := 3) rfl) rfl
set_option maxRecDepth 100000 in
theorem wd_100 : Jvm.Cond.fieldLink "PlayedTruth" 259 "PlayedTruth$Ahead" "first" "[I" ∈ tbl := in_t2 (List.mem_of_getElem? (i := 4) rfl) rfl
set_option maxRecDepth 100000 in
theorem wd_101 : Jvm.Cond.fieldLink "PlayedTruth$Ahead" 37 "PlayedTruth$Ahead" "fewest" "I" ∈ tbl := in_t2 (List.mem_of_getElem? (i := 5) rfl) rfl
set_option maxRecDepth 100000 in
theorem wd_102 : Jvm.Cond.fieldLink "PlayedTruth" 268 "PlayedTruth$Ahead" "fewest" "I" ∈ tbl := in_t2 (List.mem_of_getElem? (i := 6) rfl) rfl
set_option maxRecDepth 100000 in
theorem wd_103 : Jvm.Cond.fieldLink "PlayedTruth$Ahead" 40 "PlayedTruth$Ahead" "settledBySome" "I" ∈ tbl := in_t2 (List.mem_of_getElem? (i := 7) rfl) rfl
set_option maxRecDepth 100000 in
theorem wd_104 : Jvm.Cond.fieldLink "PlayedTruth" 271 "PlayedTruth$Ahead" "settledBySome" "I" ∈ tbl := in_t2 (List.mem_of_getElem? (i := 8) rfl) rfl
set_option maxRecDepth 100000 in
theorem wd_105 : Jvm.Cond.fieldLink "PlayedTruth$Ahead" 43 "PlayedTruth$Ahead" "opening" "I" ∈ tbl := in_t2 (List.mem_of_getElem? (i := 9) rfl) rfl
set_option maxRecDepth 100000 in
theorem wd_106 : Jvm.Cond.fieldLink "PlayedTruth" 280 "PlayedTruth$Ahead" "opening" "I" ∈ tbl := in_t2 (List.mem_of_getElem? (i := 10) rfl) rfl
set_option maxRecDepth 100000 in
theorem wd_107 : Jvm.Cond.methodLink "PlayedTruth$Host" 3 ⟨"java/lang/Object", "<init>", "()V"⟩ ∈ tbl := in_t2 (List.mem_of_getElem? (i := 41) rfl) rfl
set_option maxRecDepth 100000 in
theorem wd_108 : Jvm.Cond.fieldLink "PlayedTruth$Host" 11 "PlayedTruth$Host" "sort" "[I" ∈ tbl := in_t2 (List.mem_of_getElem? (i := 44) rfl) rfl
set_option maxRecDepth 100000 in
theorem wd_109 : Jvm.Cond.fieldLink "PlayedTruth" 335 "PlayedTruth$Host" "sort" "[I" ∈ tbl := in_t2 (List.mem_of_getElem? (i := 45) rfl) rfl
set_option maxRecDepth 100000 in
theorem wd_110 : Jvm.Cond.fieldLink "PlayedTruth$Host" 15 "PlayedTruth$Host" "size" "[I" ∈ tbl := in_t2 (List.mem_of_getElem? (i := 46) rfl) rfl
set_option maxRecDepth 100000 in
theorem wd_111 : Jvm.Cond.fieldLink "PlayedTruth$Host" 20 "PlayedTruth$Host" "items" "[[I" ∈ tbl := in_t2 (List.mem_of_getElem? (i := 47) rfl) rfl
set_option maxRecDepth 100000 in
theorem wd_112 : Jvm.Cond.fieldLink "PlayedTruth$Ahead" 102 "PlayedTruth$Host" "items" "[[I" ∈ tbl := in_t2 (List.mem_of_getElem? (i := 48) rfl) rfl
set_option maxRecDepth 100000 in
theorem wd_113 : Jvm.Cond.fieldLink "PlayedTruth" 341 "PlayedTruth$Host" "items" "[[I" ∈ tbl := in_t2 (List.mem_of_getElem? (i := 49) rfl) rfl
set_option maxRecDepth 100000 in
theorem wd_114 : Jvm.Cond.fieldLink "PlayedTruth$Host" 23 "PlayedTruth$Host" "holds" "[I" ∈ tbl := in_t2 (List.mem_of_getElem? (i := 50) rfl) rfl
set_option maxRecDepth 100000 in
theorem wd_115 : Jvm.Cond.fieldLink "PlayedTruth" 373 "PlayedTruth$Host" "holds" "[I" ∈ tbl := in_t2 (List.mem_of_getElem? (i := 51) rfl) rfl
set_option maxRecDepth 100000 in
theorem wd_116 : Jvm.Cond.fieldLink "PlayedTruth$Host" 26 "PlayedTruth$Host" "held" "[I" ∈ tbl := in_t2 (List.mem_of_getElem? (i := 52) rfl) rfl
set_option maxRecDepth 100000 in
theorem wd_117 : Jvm.Cond.fieldLink "PlayedTruth" 370 "PlayedTruth$Host" "held" "[I" ∈ tbl := in_t2 (List.mem_of_getElem? (i := 53) rfl) rfl
set_option maxRecDepth 100000 in
theorem wd_118 : Jvm.Cond.fieldLink "PlayedTruth$Host" 29 "PlayedTruth$Host" "heldSize" "[I" ∈ tbl := in_t2 (List.mem_of_getElem? (i := 54) rfl) rfl
set_option maxRecDepth 100000 in
theorem wd_119 : Jvm.Cond.fieldLink "PlayedTruth" 376 "PlayedTruth$Host" "heldSize" "[I" ∈ tbl := in_t2 (List.mem_of_getElem? (i := 55) rfl) rfl
set_option maxRecDepth 100000 in
theorem wd_120 : Jvm.Cond.methodLink "PlayedTruth$Acting" 3 ⟨"java/lang/Object", "<init>", "()V"⟩ ∈ tbl := in_t2 (List.mem_of_getElem? (i := 74) rfl) rfl
set_option maxRecDepth 100000 in
theorem wd_121 : Jvm.Cond.fieldLink "PlayedTruth$Acting" 11 "PlayedTruth$Acting" "bodies" "[I" ∈ tbl := in_t2 (List.mem_of_getElem? (i := 75) rfl) rfl
set_option maxRecDepth 100000 in
theorem wd_122 : Jvm.Cond.fieldLink "PlayedTruth" 390 "PlayedTruth$Acting" "bodies" "[I" ∈ tbl := in_t2 (List.mem_of_getElem? (i := 76) rfl) rfl
set_option maxRecDepth 100000 in
theorem wd_123 : Jvm.Cond.fieldLink "PlayedTruth$Acting" 15 "PlayedTruth$Acting" "count" "I" ∈ tbl := in_t2 (List.mem_of_getElem? (i := 77) rfl) rfl
set_option maxRecDepth 100000 in
theorem wd_124 : Jvm.Cond.fieldLink "PlayedTruth" 389 "PlayedTruth$Acting" "count" "I" ∈ tbl := in_t2 (List.mem_of_getElem? (i := 78) rfl) rfl
set_option maxRecDepth 100000 in
theorem wd_125 : Jvm.Cond.fieldLink "PlayedTruth$Acting" 19 "PlayedTruth$Acting" "isParted" "Z" ∈ tbl := in_t2 (List.mem_of_getElem? (i := 79) rfl) rfl
set_option maxRecDepth 100000 in
theorem wd_126 : Jvm.Cond.fieldLink "PlayedTruth$Acting" 23 "PlayedTruth$Acting" "kind" "I" ∈ tbl := in_t2 (List.mem_of_getElem? (i := 80) rfl) rfl
set_option maxRecDepth 100000 in
theorem wd_127 : Jvm.Cond.fieldLink "PlayedTruth$Acting" 26 "PlayedTruth$Acting" "n" "I" ∈ tbl := in_t2 (List.mem_of_getElem? (i := 81) rfl) rfl
set_option maxRecDepth 100000 in
theorem wd_128 : Jvm.Cond.fieldLink "PlayedTruth$Acting" 29 "PlayedTruth$Acting" "a" "I" ∈ tbl := in_t2 (List.mem_of_getElem? (i := 82) rfl) rfl
set_option maxRecDepth 100000 in
theorem wd_129 : Jvm.Cond.fieldLink "PlayedTruth" 10 "PlayedTruth" "stage" "LPlayedTruth$Stage;" ∈ tbl := in_t2 (List.mem_of_getElem? (i := 96) rfl) rfl
set_option maxRecDepth 100000 in
theorem wd_130 : Jvm.Cond.fieldLink "PlayedTruth" 19 "PlayedTruth" "now" "LPlayedTruth$Moment;" ∈ tbl := in_t2 (List.mem_of_getElem? (i := 97) rfl) rfl
set_option maxRecDepth 100000 in
theorem wd_131 : Jvm.Cond.fieldLink "PlayedTruth" 26 "PlayedTruth" "strangers" "LPlayedTruth$Strangers;" ∈ tbl := in_t2 (List.mem_of_getElem? (i := 98) rfl) rfl
set_option maxRecDepth 100000 in
theorem wd_132 : Jvm.Cond.fieldLink "PlayedTruth" 33 "PlayedTruth" "reader" "LPlayedTruth$RuleReader;" ∈ tbl := in_t2 (List.mem_of_getElem? (i := 99) rfl) rfl
set_option maxRecDepth 100000 in
theorem wd_133 : Jvm.Cond.fieldLink "PlayedTruth" 42 "PlayedTruth" "ahead" "LPlayedTruth$Ahead;" ∈ tbl := in_t2 (List.mem_of_getElem? (i := 100) rfl) rfl
set_option maxRecDepth 100000 in
theorem wd_134 : Jvm.Cond.fieldLink "PlayedTruth" 49 "PlayedTruth" "host" "LPlayedTruth$Host;" ∈ tbl := in_t2 (List.mem_of_getElem? (i := 101) rfl) rfl
set_option maxRecDepth 100000 in
theorem wd_135 : Jvm.Cond.fieldLink "PlayedTruth" 56 "PlayedTruth" "acting" "LPlayedTruth$Acting;" ∈ tbl := in_t2 (List.mem_of_getElem? (i := 102) rfl) rfl
set_option maxRecDepth 100000 in
theorem wd_136 : Jvm.Cond.fieldLink "PlayedTruth" 60 "PlayedTruth" "rows" "[I" ∈ tbl := in_t2 (List.mem_of_getElem? (i := 103) rfl) rfl
set_option maxRecDepth 100000 in
theorem wd_137 : Jvm.Cond.fieldLink "PlayedTruth" 64 "PlayedTruth" "rowCount" "I" ∈ tbl := in_t2 (List.mem_of_getElem? (i := 104) rfl) rfl
set_option maxRecDepth 100000 in
theorem wd_138 : Jvm.Cond.fieldLink "PlayedTruth" 68 "PlayedTruth" "keptStage" "LPlayedTruth$Stage;" ∈ tbl := in_t2 (List.mem_of_getElem? (i := 105) rfl) rfl
set_option maxRecDepth 100000 in
theorem wd_139 : Jvm.Cond.fieldLink "PlayedTruth" 71 "PlayedTruth" "keptNow" "LPlayedTruth$Moment;" ∈ tbl := in_t2 (List.mem_of_getElem? (i := 106) rfl) rfl
set_option maxRecDepth 100000 in
theorem wd_140 : Jvm.Cond.fieldLink "PlayedTruth" 74 "PlayedTruth" "keptStrangers" "LPlayedTruth$Strangers;" ∈ tbl := in_t2 (List.mem_of_getElem? (i := 107) rfl) rfl
set_option maxRecDepth 100000 in
theorem wd_141 : Jvm.Cond.fieldLink "PlayedTruth" 77 "PlayedTruth" "isKept" "Z" ∈ tbl := in_t2 (List.mem_of_getElem? (i := 108) rfl) rfl
set_option maxRecDepth 100000 in
theorem wd_142 : Jvm.Cond.methodLink "PlayedTruthLaw" 13 ⟨"PlayedTruth", "scene", "(IIII)I"⟩ ∈ tbl := in_t2 (List.mem_of_getElem? (i := 136) rfl) rfl
set_option maxRecDepth 100000 in
theorem wd_143 : Jvm.Cond.methodLink "PlayedTruth" 83 ⟨"PlayedTruth", "isIn", "(III)Z"⟩ ∈ tbl := in_t2 (List.mem_of_getElem? (i := 140) rfl) rfl
set_option maxRecDepth 100000 in
theorem wd_144 : Jvm.Cond.methodLink "PlayedTruth" 87 ⟨"PlayedTruth", "isPlace", "(I)Z"⟩ ∈ tbl := in_t2 (List.mem_of_getElem? (i := 143) rfl) rfl
set_option maxRecDepth 100000 in
theorem wd_145 : Jvm.Cond.methodLink "PlayedTruthLaw" 18 ⟨"PlayedTruth", "sceneOf", "(II)I"⟩ ∈ tbl := in_t2 (List.mem_of_getElem? (i := 146) rfl) rfl
set_option maxRecDepth 100000 in
theorem wd_146 : Jvm.Cond.methodLink "PlayedTruth" 106 ⟨"PlayedTruth", "isScene", "(I)Z"⟩ ∈ tbl := in_t2 (List.mem_of_getElem? (i := 150) rfl) rfl
set_option maxRecDepth 100000 in
theorem wd_147 : Jvm.Cond.methodLink "PlayedTruth" 109 ⟨"PlayedTruth$Moment", "isSettled", "(I)Z"⟩ ∈ tbl := in_t2 (List.mem_of_getElem? (i := 154) rfl) rfl
set_option maxRecDepth 100000 in
theorem wd_148 : Jvm.Cond.methodLink "PlayedTruth" 112 ⟨"PlayedTruth$Stage", "learns", "(LPlayedTruth$Moment;I)I"⟩ ∈ tbl := in_t2 (List.mem_of_getElem? (i := 158) rfl) rfl
set_option maxRecDepth 100000 in
theorem wd_149 : Jvm.Cond.methodLink "PlayedTruth$Stage" 63 ⟨"PlayedTruth$Stage", "railOf", "(I)I"⟩ ∈ tbl := in_t2 (List.mem_of_getElem? (i := 162) rfl) rfl
set_option maxRecDepth 100000 in
theorem wd_150 : Jvm.Cond.methodLink "PlayedTruth$Stage" 70 ⟨"PlayedTruth$Kind", "learns", "(IIII)I"⟩ ∈ tbl := in_t2 (List.mem_of_getElem? (i := 166) rfl) rfl
set_option maxRecDepth 100000 in
theorem wd_151 : Jvm.Cond.methodLink "PlayedTruth$Kind" 9 ⟨"java/lang/Math", "max", "(II)I"⟩ ∈ tbl := in_t2 (List.mem_of_getElem? (i := 169) rfl) rfl
set_option maxRecDepth 100000 in
theorem wd_152 : Jvm.Cond.methodLink "PlayedTruth$Stage" 76 ⟨"PlayedTruth$Stage", "leans", "(LPlayedTruth$Moment;I)I"⟩ ∈ tbl := in_t2 (List.mem_of_getElem? (i := 172) rfl) rfl
set_option maxRecDepth 100000 in
theorem wd_153 : Jvm.Cond.methodLink "PlayedTruth$Stage" 59 ⟨"PlayedTruth$Moment", "isSettled", "(I)Z"⟩ ∈ tbl := in_t2 (List.mem_of_getElem? (i := 176) rfl) rfl
set_option maxRecDepth 100000 in
theorem wd_154 : Jvm.Cond.methodLink "PlayedTruth$Stage" 80 ⟨"java/lang/Math", "max", "(II)I"⟩ ∈ tbl := in_t2 (List.mem_of_getElem? (i := 177) rfl) rfl
set_option maxRecDepth 100000 in
theorem wd_155 : Jvm.Cond.methodLink "PlayedTruth" 116 ⟨"PlayedTruth$Stage", "draws", "(LPlayedTruth$Moment;I)I"⟩ ∈ tbl := in_t2 (List.mem_of_getElem? (i := 178) rfl) rfl
set_option maxRecDepth 100000 in
theorem wd_156 : Jvm.Cond.methodLink "PlayedTruth$Stage" 89 ⟨"PlayedTruth$Kind", "draws", "(IIII)I"⟩ ∈ tbl := in_t2 (List.mem_of_getElem? (i := 182) rfl) rfl
set_option maxRecDepth 100000 in
theorem wd_157 : Jvm.Cond.methodLink "PlayedTruth" 119 ⟨"PlayedTruth$Stage", "leans", "(LPlayedTruth$Moment;I)I"⟩ ∈ tbl := in_t2 (List.mem_of_getElem? (i := 185) rfl) rfl
set_option maxRecDepth 100000 in
theorem wd_158 : Jvm.Cond.methodLink "PlayedTruth" 122 ⟨"PlayedTruth$Stage", "mayBeMended", "(LPlayedTruth$Moment;I)Z"⟩ ∈ tbl := in_t2 (List.mem_of_getElem? (i := 186) rfl) rfl
set_option maxRecDepth 100000 in
theorem wd_159 : Jvm.Cond.methodLink "PlayedTruth$Stage" 104 ⟨"PlayedTruth$Stage", "learns", "(LPlayedTruth$Moment;I)I"⟩ ∈ tbl := in_t2 (List.mem_of_getElem? (i := 190) rfl) rfl
set_option maxRecDepth 100000 in
theorem wd_160 : Jvm.Cond.methodLink "PlayedTruth$Stage" 106 ⟨"PlayedTruth$Stage", "will", "(LPlayedTruth$Moment;I)I"⟩ ∈ tbl := in_t2 (List.mem_of_getElem? (i := 191) rfl) rfl
set_option maxRecDepth 100000 in
theorem wd_161 : Jvm.Cond.methodLink "PlayedTruth$Stage" 100 ⟨"PlayedTruth$Rules", "willOf", "(I[I)I"⟩ ∈ tbl := in_t2 (List.mem_of_getElem? (i := 195) rfl) rfl
set_option maxRecDepth 100000 in
theorem wd_162 : Jvm.Cond.methodLink "PlayedTruth$Rules" 39 ⟨"PlayedTruth$Kind", "isAs", "(II)Z"⟩ ∈ tbl := in_t2 (List.mem_of_getElem? (i := 199) rfl) rfl
set_option maxRecDepth 100000 in
theorem wd_163 : Jvm.Cond.methodLink "PlayedTruth$Rules" 45 ⟨"PlayedTruth$Rules", "holds", "(II[I)Z"⟩ ∈ tbl := in_t2 (List.mem_of_getElem? (i := 202) rfl) rfl
set_option maxRecDepth 100000 in
theorem wd_164 : Jvm.Cond.methodLink "PlayedTruth" 126 ⟨"PlayedTruth$Stage", "will", "(LPlayedTruth$Moment;I)I"⟩ ∈ tbl := in_t2 (List.mem_of_getElem? (i := 206) rfl) rfl
set_option maxRecDepth 100000 in
theorem wd_165 : Jvm.Cond.methodLink "PlayedTruthLaw" 23 ⟨"PlayedTruth", "change", "(III)I"⟩ ∈ tbl := in_t2 (List.mem_of_getElem? (i := 207) rfl) rfl
set_option maxRecDepth 100000 in
theorem wd_166 : Jvm.Cond.methodLink "PlayedTruth" 129 ⟨"PlayedTruth", "put", "([III)I"⟩ ∈ tbl := in_t2 (List.mem_of_getElem? (i := 211) rfl) rfl
set_option maxRecDepth 100000 in
theorem wd_167 : Jvm.Cond.methodLink "PlayedTruth" 133 ⟨"PlayedTruth", "putSettled", "(II)I"⟩ ∈ tbl := in_t2 (List.mem_of_getElem? (i := 214) rfl) rfl
set_option maxRecDepth 100000 in
theorem wd_168 : Jvm.Cond.methodLink "PlayedTruthLaw" 28 ⟨"PlayedTruth", "remake", "(II)I"⟩ ∈ tbl := in_t2 (List.mem_of_getElem? (i := 218) rfl) rfl
set_option maxRecDepth 100000 in
theorem wd_169 : Jvm.Cond.methodLink "PlayedTruthLaw" 32 ⟨"PlayedTruth", "house", "(II)I"⟩ ∈ tbl := in_t2 (List.mem_of_getElem? (i := 222) rfl) rfl
set_option maxRecDepth 100000 in
theorem wd_170 : Jvm.Cond.methodLink "PlayedTruthLaw" 36 ⟨"PlayedTruth", "place", "(III)I"⟩ ∈ tbl := in_t2 (List.mem_of_getElem? (i := 226) rfl) rfl
set_option maxRecDepth 100000 in
theorem wd_171 : Jvm.Cond.methodLink "PlayedTruthLaw" 40 ⟨"PlayedTruth", "placeOf", "(II)I"⟩ ∈ tbl := in_t2 (List.mem_of_getElem? (i := 230) rfl) rfl
set_option maxRecDepth 100000 in
theorem wd_172 : Jvm.Cond.methodLink "PlayedTruthLaw" 44 ⟨"PlayedTruth", "ends", "(I)I"⟩ ∈ tbl := in_t2 (List.mem_of_getElem? (i := 234) rfl) rfl
set_option maxRecDepth 100000 in
theorem wd_173 : Jvm.Cond.methodLink "PlayedTruthLaw" 49 ⟨"PlayedTruth", "anew", "()I"⟩ ∈ tbl := in_t2 (List.mem_of_getElem? (i := 238) rfl) rfl
set_option maxRecDepth 100000 in
theorem wd_174 : Jvm.Cond.methodLink "PlayedTruthLaw" 54 ⟨"PlayedTruth", "state", "(I)I"⟩ ∈ tbl := in_t3 (List.mem_of_getElem? (i := 2) rfl) rfl
set_option maxRecDepth 100000 in
theorem wd_175 : Jvm.Cond.methodLink "PlayedTruth" 158 ⟨"PlayedTruth$Stage", "isOver", "(LPlayedTruth$Moment;)Z"⟩ ∈ tbl := in_t3 (List.mem_of_getElem? (i := 6) rfl) rfl
set_option maxRecDepth 100000 in
theorem wd_176 : Jvm.Cond.methodLink "PlayedTruth" 162 ⟨"PlayedTruth$Stage", "houseOf", "(I)I"⟩ ∈ tbl := in_t3 (List.mem_of_getElem? (i := 10) rfl) rfl
set_option maxRecDepth 100000 in
theorem wd_177 : Jvm.Cond.methodLink "PlayedTruth" 166 ⟨"PlayedTruth$Stage", "truthOfAll", "(LPlayedTruth$Moment;)I"⟩ ∈ tbl := in_t3 (List.mem_of_getElem? (i := 14) rfl) rfl
set_option maxRecDepth 100000 in
theorem wd_178 : Jvm.Cond.methodLink "PlayedTruthLaw" 60 ⟨"PlayedTruth", "feed", "(JI)I"⟩ ∈ tbl := in_t3 (List.mem_of_getElem? (i := 18) rfl) rfl
set_option maxRecDepth 100000 in
theorem wd_179 : Jvm.Cond.methodLink "PlayedTruth" 170 ⟨"PlayedTruth$RuleReader", "hasRoomFor", "(I)Z"⟩ ∈ tbl := in_t3 (List.mem_of_getElem? (i := 22) rfl) rfl
set_option maxRecDepth 100000 in
theorem wd_180 : Jvm.Cond.methodLink "PlayedTruth" 173 ⟨"PlayedTruth$RuleReader", "take", "(JI)V"⟩ ∈ tbl := in_t3 (List.mem_of_getElem? (i := 26) rfl) rfl
set_option maxRecDepth 100000 in
theorem wd_181 : Jvm.Cond.constantLong "PlayedTruth$RuleReader" 42 (255) ∈ tbl := in_t3 (List.mem_of_getElem? (i := 30) rfl) rfl
set_option maxRecDepth 100000 in
theorem wd_182 : Jvm.Cond.methodLink "PlayedTruthLaw" 65 ⟨"PlayedTruth", "rules", "()I"⟩ ∈ tbl := in_t3 (List.mem_of_getElem? (i := 31) rfl) rfl
set_option maxRecDepth 100000 in
theorem wd_183 : Jvm.Cond.methodLink "PlayedTruth" 180 ⟨"PlayedTruth$RuleReader", "readAndUseUp", "()Z"⟩ ∈ tbl := in_t3 (List.mem_of_getElem? (i := 35) rfl) rfl
set_option maxRecDepth 100000 in
theorem wd_184 : Jvm.Cond.methodLink "PlayedTruth$RuleReader" 44 ⟨"PlayedTruth$RuleReader", "split", "()V"⟩ ∈ tbl := in_t3 (List.mem_of_getElem? (i := 39) rfl) rfl
set_option maxRecDepth 100000 in
theorem wd_185 : Jvm.Cond.methodLink "PlayedTruth$RuleReader" 54 ⟨"PlayedTruth$RuleReader", "endOfToken", "(I)I"⟩ ∈ tbl := in_t3 (List.mem_of_getElem? (i := 43) rfl) rfl
set_option maxRecDepth 100000 in
theorem wd_186 : Jvm.Cond.methodLink "PlayedTruth$RuleReader" 65 ⟨"PlayedTruth$RuleReader", "isLetter", "(I)Z"⟩ ∈ tbl := in_t3 (List.mem_of_getElem? (i := 47) rfl) rfl
set_option maxRecDepth 100000 in
theorem wd_187 : Jvm.Cond.methodLink "PlayedTruth$RuleReader" 69 ⟨"PlayedTruth$RuleReader", "isDigit", "(I)Z"⟩ ∈ tbl := in_t3 (List.mem_of_getElem? (i := 50) rfl) rfl
set_option maxRecDepth 100000 in
theorem wd_188 : Jvm.Cond.methodLink "PlayedTruth$RuleReader" 58 ⟨"PlayedTruth$RuleReader", "tokenOf", "(II)I"⟩ ∈ tbl := in_t3 (List.mem_of_getElem? (i := 53) rfl) rfl
set_option maxRecDepth 100000 in
theorem wd_189 : Jvm.Cond.methodLink "PlayedTruth$RuleReader" 72 ⟨"PlayedTruth$RuleReader", "wordOf", "(II)I"⟩ ∈ tbl := in_t3 (List.mem_of_getElem? (i := 57) rfl) rfl
set_option maxRecDepth 100000 in
theorem wd_190 : Jvm.Cond.methodLink "PlayedTruth$RuleReader" 77 ⟨"java/lang/String", "length", "()I"⟩ ∈ tbl := in_t3 (List.mem_of_getElem? (i := 62) rfl) rfl
set_option maxRecDepth 100000 in
theorem wd_191 : Jvm.Cond.methodLink "java/lang/String" 335 ⟨"java/lang/String", "coder", "()B"⟩ ∈ tbl := in_t3 (List.mem_of_getElem? (i := 66) rfl) rfl
set_option maxRecDepth 100000 in
theorem wd_192 : Jvm.Cond.fieldLink "java/lang/String" 38 "java/lang/String" "COMPACT_STRINGS" "Z" ∈ tbl := in_t3 (List.mem_of_getElem? (i := 70) rfl) rfl
set_option maxRecDepth 100000 in
theorem wd_193 : Jvm.Cond.methodLink "PlayedTruth$RuleReader" 83 ⟨"java/lang/String", "charAt", "(I)C"⟩ ∈ tbl := in_t3 (List.mem_of_getElem? (i := 72) rfl) rfl
set_option maxRecDepth 100000 in
theorem wd_194 : Jvm.Cond.methodLink "java/lang/String" 492 ⟨"java/lang/String", "isLatin1", "()Z"⟩ ∈ tbl := in_t3 (List.mem_of_getElem? (i := 76) rfl) rfl
set_option maxRecDepth 100000 in
theorem wd_195 : Jvm.Cond.methodLink "java/lang/String" 495 ⟨"java/lang/StringLatin1", "charAt", "([BI)C"⟩ ∈ tbl := in_t3 (List.mem_of_getElem? (i := 80) rfl) rfl
set_option maxRecDepth 100000 in
theorem wd_196 : Jvm.Cond.methodLink "java/lang/StringLatin1" 9 ⟨"java/lang/String", "checkIndex", "(II)V"⟩ ∈ tbl := in_t3 (List.mem_of_getElem? (i := 83) rfl) rfl
set_option maxRecDepth 100000 in
theorem wd_197 : Jvm.Cond.fieldLink "java/lang/String" 1053 "jdk/internal/util/Preconditions" "SIOOBE_FORMATTER" "Ljava/util/function/BiFunction;" ∈ tbl := in_t3 (List.mem_of_getElem? (i := 86) rfl) rfl
set_option maxRecDepth 100000 in
theorem wd_198 : Jvm.Cond.methodLink "java/lang/String" 1059 ⟨"jdk/internal/util/Preconditions", "checkIndex", "(IILjava/util/function/BiFunction;)I"⟩ ∈ tbl := in_t3 (List.mem_of_getElem? (i := 88) rfl) rfl
set_option maxRecDepth 100000 in
theorem wd_199 : Jvm.Cond.methodLink "java/lang/String" 498 ⟨"java/lang/StringUTF16", "charAt", "([BI)C"⟩ ∈ tbl := in_t3 (List.mem_of_getElem? (i := 91) rfl) rfl
set_option maxRecDepth 100000 in
theorem wd_200 : Jvm.Cond.methodLink "java/lang/StringUTF16" 67 ⟨"java/lang/StringUTF16", "checkIndex", "(I[B)V"⟩ ∈ tbl := in_t3 (List.mem_of_getElem? (i := 94) rfl) rfl
set_option maxRecDepth 100000 in
theorem wd_201 : Jvm.Cond.methodLink "java/lang/StringUTF16" 48 ⟨"java/lang/StringUTF16", "length", "([B)I"⟩ ∈ tbl := in_t3 (List.mem_of_getElem? (i := 97) rfl) rfl
set_option maxRecDepth 100000 in
theorem wd_202 : Jvm.Cond.methodLink "java/lang/StringUTF16" 414 ⟨"java/lang/String", "checkIndex", "(II)V"⟩ ∈ tbl := in_t3 (List.mem_of_getElem? (i := 100) rfl) rfl
set_option maxRecDepth 100000 in
theorem wd_203 : Jvm.Cond.methodLink "java/lang/StringUTF16" 71 ⟨"java/lang/StringUTF16", "getChar", "([BI)C"⟩ ∈ tbl := in_t3 (List.mem_of_getElem? (i := 101) rfl) rfl
set_option maxRecDepth 100000 in
theorem wd_204 : Jvm.Cond.fieldLink "java/lang/StringUTF16" 44 "java/lang/StringUTF16" "$assertionsDisabled" "Z" ∈ tbl := in_t3 (List.mem_of_getElem? (i := 104) rfl) rfl
set_option maxRecDepth 100000 in
theorem wd_205 : Jvm.Cond.fieldLink "java/lang/StringUTF16" 59 "java/lang/StringUTF16" "HI_BYTE_SHIFT" "I" ∈ tbl := in_t3 (List.mem_of_getElem? (i := 106) rfl) rfl
set_option maxRecDepth 100000 in
theorem wd_206 : Jvm.Cond.fieldLink "java/lang/StringUTF16" 63 "java/lang/StringUTF16" "LO_BYTE_SHIFT" "I" ∈ tbl := in_t3 (List.mem_of_getElem? (i := 108) rfl) rfl
set_option maxRecDepth 100000 in
theorem wd_207 : Jvm.Cond.methodLink "PlayedTruth$RuleReader" 87 ⟨"PlayedTruth$RuleReader", "isSpelt", "(IIII)Z"⟩ ∈ tbl := in_t3 (List.mem_of_getElem? (i := 110) rfl) rfl
set_option maxRecDepth 100000 in
theorem wd_208 : Jvm.Cond.methodLink "PlayedTruth$RuleReader" 62 ⟨"PlayedTruth$RuleReader", "numberOf", "(II)I"⟩ ∈ tbl := in_t3 (List.mem_of_getElem? (i := 114) rfl) rfl
set_option maxRecDepth 100000 in
theorem wd_209 : Jvm.Cond.methodLink "PlayedTruth$RuleReader" 47 ⟨"PlayedTruth$Rules", "clear", "()V"⟩ ∈ tbl := in_t3 (List.mem_of_getElem? (i := 118) rfl) rfl
set_option maxRecDepth 100000 in
theorem wd_210 : Jvm.Cond.methodLink "PlayedTruth$RuleReader" 50 ⟨"PlayedTruth$RuleReader", "readRule", "()Z"⟩ ∈ tbl := in_t3 (List.mem_of_getElem? (i := 122) rfl) rfl
set_option maxRecDepth 100000 in
theorem wd_211 : Jvm.Cond.methodLink "PlayedTruth$RuleReader" 94 ⟨"PlayedTruth$RuleReader", "refuse", "()Z"⟩ ∈ tbl := in_t3 (List.mem_of_getElem? (i := 126) rfl) rfl
set_option maxRecDepth 100000 in
theorem wd_212 : Jvm.Cond.methodLink "PlayedTruth$RuleReader" 97 ⟨"PlayedTruth$RuleReader", "advance", "()V"⟩ ∈ tbl := in_t3 (List.mem_of_getElem? (i := 130) rfl) rfl
set_option maxRecDepth 100000 in
theorem wd_213 : Jvm.Cond.methodLink "PlayedTruth$RuleReader" 100 ⟨"PlayedTruth$RuleReader", "readCondition", "(I)Z"⟩ ∈ tbl := in_t3 (List.mem_of_getElem? (i := 134) rfl) rfl
set_option maxRecDepth 100000 in
theorem wd_214 : Jvm.Cond.methodLink "PlayedTruth$RuleReader" 107 ⟨"PlayedTruth$RuleReader", "readAll", "(I)Z"⟩ ∈ tbl := in_t3 (List.mem_of_getElem? (i := 138) rfl) rfl
set_option maxRecDepth 100000 in
theorem wd_215 : Jvm.Cond.methodLink "PlayedTruth$RuleReader" 114 ⟨"PlayedTruth$RuleReader", "readOne", "(I)Z"⟩ ∈ tbl := in_t3 (List.mem_of_getElem? (i := 142) rfl) rfl
set_option maxRecDepth 100000 in
theorem wd_216 : Jvm.Cond.methodLink "PlayedTruth$RuleReader" 117 ⟨"PlayedTruth$RuleReader", "readBracket", "(I)Z"⟩ ∈ tbl := in_t3 (List.mem_of_getElem? (i := 146) rfl) rfl
set_option maxRecDepth 100000 in
theorem wd_217 : Jvm.Cond.methodLink "PlayedTruth$RuleReader" 120 ⟨"PlayedTruth$RuleReader", "readComparison", "()Z"⟩ ∈ tbl := in_t3 (List.mem_of_getElem? (i := 150) rfl) rfl
set_option maxRecDepth 100000 in
theorem wd_218 : Jvm.Cond.methodLink "PlayedTruth$RuleReader" 123 ⟨"PlayedTruth$RuleReader", "isValue", "()Z"⟩ ∈ tbl := in_t3 (List.mem_of_getElem? (i := 154) rfl) rfl
set_option maxRecDepth 100000 in
theorem wd_219 : Jvm.Cond.methodLink "PlayedTruth$RuleReader" 126 ⟨"PlayedTruth$RuleReader", "toldValue", "()I"⟩ ∈ tbl := in_t3 (List.mem_of_getElem? (i := 158) rfl) rfl
set_option maxRecDepth 100000 in
theorem wd_220 : Jvm.Cond.methodLink "PlayedTruth$RuleReader" 110 ⟨"PlayedTruth$Rules", "addStep", "(I)V"⟩ ∈ tbl := in_t3 (List.mem_of_getElem? (i := 162) rfl) rfl
set_option maxRecDepth 100000 in
theorem wd_221 : Jvm.Cond.methodLink "PlayedTruth$RuleReader" 103 ⟨"PlayedTruth$Rules", "addRule", "(II)V"⟩ ∈ tbl := in_t3 (List.mem_of_getElem? (i := 166) rfl) rfl
set_option maxRecDepth 100000 in
theorem wd_222 : Jvm.Cond.methodLink "PlayedTruth" 194 ⟨"PlayedTruth$Rules", "copyFrom", "(LPlayedTruth$Rules;)V"⟩ ∈ tbl := in_t3 (List.mem_of_getElem? (i := 170) rfl) rfl
set_option maxRecDepth 100000 in
theorem wd_223 : Jvm.Cond.methodLink "PlayedTruth$Rules" 33 ⟨"java/lang/System", "arraycopy", "(Ljava/lang/Object;ILjava/lang/Object;II)V"⟩ ∈ tbl := in_t3 (List.mem_of_getElem? (i := 174) rfl) rfl
set_option maxRecDepth 100000 in
theorem wd_224 : Jvm.Cond.methodLink "PlayedTruthLaw" 69 ⟨"PlayedTruth", "night", "()I"⟩ ∈ tbl := in_t3 (List.mem_of_getElem? (i := 178) rfl) rfl
set_option maxRecDepth 100000 in
theorem wd_225 : Jvm.Cond.methodLink "PlayedTruth" 203 ⟨"PlayedTruth$Stage", "actOfRest", "(LPlayedTruth$Moment;)I"⟩ ∈ tbl := in_t3 (List.mem_of_getElem? (i := 182) rfl) rfl
set_option maxRecDepth 100000 in
theorem wd_226 : Jvm.Cond.methodLink "PlayedTruth$Stage" 109 ⟨"PlayedTruth$Stage", "mayBeMended", "(LPlayedTruth$Moment;I)Z"⟩ ∈ tbl := in_t3 (List.mem_of_getElem? (i := 186) rfl) rfl
set_option maxRecDepth 100000 in
theorem wd_227 : Jvm.Cond.methodLink "PlayedTruth" 206 ⟨"PlayedTruth$Stage", "goBy", "(LPlayedTruth$Moment;I)I"⟩ ∈ tbl := in_t3 (List.mem_of_getElem? (i := 187) rfl) rfl
set_option maxRecDepth 100000 in
theorem wd_228 : Jvm.Cond.methodLink "PlayedTruth$Stage" 113 ⟨"PlayedTruth$Stage", "mend", "(LPlayedTruth$Moment;I)I"⟩ ∈ tbl := in_t3 (List.mem_of_getElem? (i := 191) rfl) rfl
set_option maxRecDepth 100000 in
theorem wd_229 : Jvm.Cond.methodLink "PlayedTruth$Stage" 122 ⟨"java/lang/Math", "min", "(II)I"⟩ ∈ tbl := in_t3 (List.mem_of_getElem? (i := 195) rfl) rfl
set_option maxRecDepth 100000 in
theorem wd_230 : Jvm.Cond.methodLink "PlayedTruth$Stage" 116 ⟨"PlayedTruth$Stage", "trim", "(LPlayedTruth$Moment;I)I"⟩ ∈ tbl := in_t3 (List.mem_of_getElem? (i := 198) rfl) rfl
set_option maxRecDepth 100000 in
theorem wd_231 : Jvm.Cond.methodLink "PlayedTruth$Stage" 128 ⟨"PlayedTruth$Stage", "houseOf", "(I)I"⟩ ∈ tbl := in_t3 (List.mem_of_getElem? (i := 202) rfl) rfl
set_option maxRecDepth 100000 in
theorem wd_232 : Jvm.Cond.methodLink "PlayedTruth$Stage" 92 ⟨"PlayedTruth$Stage", "draws", "(LPlayedTruth$Moment;I)I"⟩ ∈ tbl := in_t3 (List.mem_of_getElem? (i := 203) rfl) rfl
set_option maxRecDepth 100000 in
theorem wd_233 : Jvm.Cond.methodLink "PlayedTruthLaw" 73 ⟨"PlayedTruth", "on", "(I)I"⟩ ∈ tbl := in_t3 (List.mem_of_getElem? (i := 204) rfl) rfl
set_option maxRecDepth 100000 in
theorem wd_234 : Jvm.Cond.methodLink "PlayedTruth" 209 ⟨"PlayedTruth$Ahead", "worthOfRest", "(I)I"⟩ ∈ tbl := in_t3 (List.mem_of_getElem? (i := 208) rfl) rfl
set_option maxRecDepth 100000 in
theorem wd_235 : Jvm.Cond.methodLink "PlayedTruth$Ahead" 59 ⟨"PlayedTruth$Ahead", "fromNow", "()LPlayedTruth$Moment;"⟩ ∈ tbl := in_t3 (List.mem_of_getElem? (i := 212) rfl) rfl
set_option maxRecDepth 100000 in
theorem wd_236 : Jvm.Cond.methodLink "PlayedTruth$Ahead" 55 ⟨"PlayedTruth$Moment", "copyFrom", "(LPlayedTruth$Moment;)V"⟩ ∈ tbl := in_t3 (List.mem_of_getElem? (i := 216) rfl) rfl
set_option maxRecDepth 100000 in
theorem wd_237 : Jvm.Cond.methodLink "PlayedTruth$Moment" 31 ⟨"java/lang/System", "arraycopy", "(Ljava/lang/Object;ILjava/lang/Object;II)V"⟩ ∈ tbl := in_t3 (List.mem_of_getElem? (i := 220) rfl) rfl
set_option maxRecDepth 100000 in
theorem wd_238 : Jvm.Cond.methodLink "PlayedTruth$Ahead" 63 ⟨"PlayedTruth$Stage", "isOver", "(LPlayedTruth$Moment;)Z"⟩ ∈ tbl := in_t3 (List.mem_of_getElem? (i := 221) rfl) rfl
set_option maxRecDepth 100000 in
theorem wd_239 : Jvm.Cond.methodLink "PlayedTruth$Ahead" 69 ⟨"PlayedTruth$Stage", "actOfRest", "(LPlayedTruth$Moment;)I"⟩ ∈ tbl := in_t3 (List.mem_of_getElem? (i := 222) rfl) rfl
set_option maxRecDepth 100000 in
theorem wd_240 : Jvm.Cond.methodLink "PlayedTruth$Ahead" 73 ⟨"PlayedTruth$Stage", "goBy", "(LPlayedTruth$Moment;I)I"⟩ ∈ tbl := in_t3 (List.mem_of_getElem? (i := 223) rfl) rfl
set_option maxRecDepth 100000 in
theorem wd_241 : Jvm.Cond.methodLink "PlayedTruthLaw" 77 ⟨"PlayedTruth", "when", "(I)I"⟩ ∈ tbl := in_t3 (List.mem_of_getElem? (i := 224) rfl) rfl
set_option maxRecDepth 100000 in
theorem wd_242 : Jvm.Cond.methodLink "PlayedTruth" 212 ⟨"PlayedTruth$Ahead", "settlingNight", "(I)I"⟩ ∈ tbl := in_t3 (List.mem_of_getElem? (i := 228) rfl) rfl
set_option maxRecDepth 100000 in
theorem wd_243 : Jvm.Cond.methodLink "PlayedTruth$Ahead" 80 ⟨"PlayedTruth$Moment", "isSettled", "(I)Z"⟩ ∈ tbl := in_t3 (List.mem_of_getElem? (i := 232) rfl) rfl
set_option maxRecDepth 100000 in
theorem wd_244 : Jvm.Cond.methodLink "PlayedTruthLaw" 81 ⟨"PlayedTruth", "prettyFor", "(I)I"⟩ ∈ tbl := in_t3 (List.mem_of_getElem? (i := 233) rfl) rfl
set_option maxRecDepth 100000 in
theorem wd_245 : Jvm.Cond.methodLink "PlayedTruth" 215 ⟨"PlayedTruth", "bestSetting", "([III)I"⟩ ∈ tbl := in_t3 (List.mem_of_getElem? (i := 237) rfl) rfl
set_option maxRecDepth 100000 in
theorem wd_246 : Jvm.Cond.methodLink "PlayedTruthLaw" 85 ⟨"PlayedTruth", "placeFor", "(I)I"⟩ ∈ tbl := in_t4 (List.mem_of_getElem? (i := 1) rfl) rfl
set_option maxRecDepth 100000 in
theorem wd_247 : Jvm.Cond.methodLink "PlayedTruthLaw" 89 ⟨"PlayedTruth", "truth", "(I)I"⟩ ∈ tbl := in_t4 (List.mem_of_getElem? (i := 5) rfl) rfl
set_option maxRecDepth 100000 in
theorem wd_248 : Jvm.Cond.methodLink "PlayedTruth" 218 ⟨"PlayedTruth$Ahead", "trueNight", "(I)I"⟩ ∈ tbl := in_t4 (List.mem_of_getElem? (i := 9) rfl) rfl
set_option maxRecDepth 100000 in
theorem wd_249 : Jvm.Cond.methodLink "PlayedTruth$Ahead" 87 ⟨"PlayedTruth$Stage", "truthOfAll", "(LPlayedTruth$Moment;)I"⟩ ∈ tbl := in_t4 (List.mem_of_getElem? (i := 13) rfl) rfl
set_option maxRecDepth 100000 in
theorem wd_250 : Jvm.Cond.methodLink "PlayedTruthLaw" 93 ⟨"PlayedTruth", "props", "(I)I"⟩ ∈ tbl := in_t4 (List.mem_of_getElem? (i := 14) rfl) rfl
set_option maxRecDepth 100000 in
theorem wd_251 : Jvm.Cond.methodLink "PlayedTruth" 221 ⟨"PlayedTruth$Stage", "scenesIn", "(I)I"⟩ ∈ tbl := in_t4 (List.mem_of_getElem? (i := 18) rfl) rfl
set_option maxRecDepth 100000 in
theorem wd_252 : Jvm.Cond.methodLink "PlayedTruthLaw" 97 ⟨"PlayedTruth", "strands", "(I)I"⟩ ∈ tbl := in_t4 (List.mem_of_getElem? (i := 22) rfl) rfl
set_option maxRecDepth 100000 in
theorem wd_253 : Jvm.Cond.methodLink "PlayedTruth" 224 ⟨"PlayedTruth", "countStrands", "()I"⟩ ∈ tbl := in_t4 (List.mem_of_getElem? (i := 26) rfl) rfl
set_option maxRecDepth 100000 in
theorem wd_254 : Jvm.Cond.methodLink "PlayedTruth" 228 ⟨"PlayedTruth", "strandOf", "(I)I"⟩ ∈ tbl := in_t4 (List.mem_of_getElem? (i := 30) rfl) rfl
set_option maxRecDepth 100000 in
theorem wd_255 : Jvm.Cond.methodLink "PlayedTruth" 231 ⟨"PlayedTruth", "closeToAny", "(I)I"⟩ ∈ tbl := in_t4 (List.mem_of_getElem? (i := 34) rfl) rfl
set_option maxRecDepth 100000 in
theorem wd_256 : Jvm.Cond.methodLink "PlayedTruth" 234 ⟨"PlayedTruth$Stage", "areClose", "(LPlayedTruth$Moment;II)Z"⟩ ∈ tbl := in_t4 (List.mem_of_getElem? (i := 38) rfl) rfl
set_option maxRecDepth 100000 in
theorem wd_257 : Jvm.Cond.methodLink "PlayedTruth$Stage" 94 ⟨"java/lang/Math", "abs", "(I)I"⟩ ∈ tbl := in_t4 (List.mem_of_getElem? (i := 42) rfl) rfl
set_option maxRecDepth 100000 in
theorem wd_258 : Jvm.Cond.methodLink "PlayedTruthLaw" 101 ⟨"PlayedTruth", "billing", "(I)I"⟩ ∈ tbl := in_t4 (List.mem_of_getElem? (i := 45) rfl) rfl
set_option maxRecDepth 100000 in
theorem wd_259 : Jvm.Cond.methodLink "PlayedTruth" 238 ⟨"java/lang/Integer", "bitCount", "(I)I"⟩ ∈ tbl := in_t4 (List.mem_of_getElem? (i := 49) rfl) rfl
set_option maxRecDepth 100000 in
theorem wd_260 : Jvm.Cond.constant "java/lang/Integer" 265 (1431655765) ∈ tbl := in_t4 (List.mem_of_getElem? (i := 52) rfl) rfl
set_option maxRecDepth 100000 in
theorem wd_261 : Jvm.Cond.constant "java/lang/Integer" 266 (858993459) ∈ tbl := in_t4 (List.mem_of_getElem? (i := 53) rfl) rfl
set_option maxRecDepth 100000 in
theorem wd_262 : Jvm.Cond.constant "java/lang/Integer" 267 (252645135) ∈ tbl := in_t4 (List.mem_of_getElem? (i := 54) rfl) rfl
set_option maxRecDepth 100000 in
theorem wd_263 : Jvm.Cond.methodLink "PlayedTruth" 243 ⟨"PlayedTruth$Stage", "drawnBy", "(LPlayedTruth$Moment;I)I"⟩ ∈ tbl := in_t4 (List.mem_of_getElem? (i := 55) rfl) rfl
set_option maxRecDepth 100000 in
theorem wd_264 : Jvm.Cond.methodLink "PlayedTruthLaw" 105 ⟨"PlayedTruth", "best", "(I)I"⟩ ∈ tbl := in_t4 (List.mem_of_getElem? (i := 59) rfl) rfl
set_option maxRecDepth 100000 in
theorem wd_265 : Jvm.Cond.methodLink "PlayedTruth" 246 ⟨"PlayedTruth", "isPlanned", "(I)Z"⟩ ∈ tbl := in_t4 (List.mem_of_getElem? (i := 63) rfl) rfl
set_option maxRecDepth 100000 in
theorem wd_266 : Jvm.Cond.methodLink "PlayedTruth" 249 ⟨"PlayedTruth$Ahead", "weighPlans", "(II)V"⟩ ∈ tbl := in_t4 (List.mem_of_getElem? (i := 66) rfl) rfl
set_option maxRecDepth 100000 in
theorem wd_267 : Jvm.Cond.methodLink "PlayedTruth$Ahead" 121 ⟨"PlayedTruth$Ahead", "nightsOf", "(I)I"⟩ ∈ tbl := in_t4 (List.mem_of_getElem? (i := 70) rfl) rfl
set_option maxRecDepth 100000 in
theorem wd_268 : Jvm.Cond.methodLink "PlayedTruth$Ahead" 112 ⟨"java/lang/Math", "min", "(II)I"⟩ ∈ tbl := in_t4 (List.mem_of_getElem? (i := 74) rfl) rfl
set_option maxRecDepth 100000 in
theorem wd_269 : Jvm.Cond.methodLink "PlayedTruth$Ahead" 118 ⟨"java/lang/Math", "max", "(II)I"⟩ ∈ tbl := in_t4 (List.mem_of_getElem? (i := 75) rfl) rfl
set_option maxRecDepth 100000 in
theorem wd_270 : Jvm.Cond.methodLink "PlayedTruth$Ahead" 125 ⟨"PlayedTruth$Ahead", "goThroughPlans", "(II)V"⟩ ∈ tbl := in_t4 (List.mem_of_getElem? (i := 76) rfl) rfl
set_option maxRecDepth 100000 in
theorem wd_271 : Jvm.Cond.methodLink "PlayedTruth$Ahead" 129 ⟨"PlayedTruth$Ahead", "weighPlan", "(LPlayedTruth$Moment;I)V"⟩ ∈ tbl := in_t4 (List.mem_of_getElem? (i := 80) rfl) rfl
set_option maxRecDepth 100000 in
theorem wd_272 : Jvm.Cond.methodLink "PlayedTruth$Ahead" 136 ⟨"java/lang/System", "arraycopy", "(Ljava/lang/Object;ILjava/lang/Object;II)V"⟩ ∈ tbl := in_t4 (List.mem_of_getElem? (i := 84) rfl) rfl
set_option maxRecDepth 100000 in
theorem wd_273 : Jvm.Cond.methodLink "PlayedTruthLaw" 109 ⟨"PlayedTruth", "ith", "(II)I"⟩ ∈ tbl := in_t4 (List.mem_of_getElem? (i := 85) rfl) rfl
set_option maxRecDepth 100000 in
theorem wd_274 : Jvm.Cond.methodLink "PlayedTruthLaw" 113 ⟨"PlayedTruth", "ways", "(I)I"⟩ ∈ tbl := in_t4 (List.mem_of_getElem? (i := 89) rfl) rfl
set_option maxRecDepth 100000 in
theorem wd_275 : Jvm.Cond.methodLink "PlayedTruthLaw" 117 ⟨"PlayedTruth", "bill", "(II)I"⟩ ∈ tbl := in_t4 (List.mem_of_getElem? (i := 93) rfl) rfl
set_option maxRecDepth 100000 in
theorem wd_276 : Jvm.Cond.methodLink "PlayedTruth" 265 ⟨"PlayedTruth", "isSetOfScenes", "(I)Z"⟩ ∈ tbl := in_t4 (List.mem_of_getElem? (i := 97) rfl) rfl
set_option maxRecDepth 100000 in
theorem wd_277 : Jvm.Cond.methodLink "PlayedTruthLaw" 121 ⟨"PlayedTruth", "bars", "(II)I"⟩ ∈ tbl := in_t4 (List.mem_of_getElem? (i := 101) rfl) rfl
set_option maxRecDepth 100000 in
theorem wd_278 : Jvm.Cond.methodLink "PlayedTruth" 274 ⟨"PlayedTruth", "leastOf", "(I)I"⟩ ∈ tbl := in_t4 (List.mem_of_getElem? (i := 105) rfl) rfl
set_option maxRecDepth 100000 in
theorem wd_279 : Jvm.Cond.methodLink "PlayedTruthLaw" 125 ⟨"PlayedTruth", "game", "(I)I"⟩ ∈ tbl := in_t4 (List.mem_of_getElem? (i := 108) rfl) rfl
set_option maxRecDepth 100000 in
theorem wd_280 : Jvm.Cond.methodLink "PlayedTruth" 277 ⟨"PlayedTruth$Ahead", "playGame", "(I)I"⟩ ∈ tbl := in_t4 (List.mem_of_getElem? (i := 112) rfl) rfl
set_option maxRecDepth 100000 in
theorem wd_281 : Jvm.Cond.methodLink "PlayedTruth$Ahead" 145 ⟨"PlayedTruth$Ahead", "valueOfGame", "(I)I"⟩ ∈ tbl := in_t4 (List.mem_of_getElem? (i := 116) rfl) rfl
set_option maxRecDepth 100000 in
theorem wd_282 : Jvm.Cond.methodLink "PlayedTruthLaw" 129 ⟨"PlayedTruth", "play", "(I)I"⟩ ∈ tbl := in_t4 (List.mem_of_getElem? (i := 120) rfl) rfl
set_option maxRecDepth 100000 in
theorem wd_283 : Jvm.Cond.methodLink "PlayedTruthLaw" 133 ⟨"PlayedTruth", "report", "(IIII)I"⟩ ∈ tbl := in_t4 (List.mem_of_getElem? (i := 124) rfl) rfl
set_option maxRecDepth 100000 in
theorem wd_284 : Jvm.Cond.methodLink "PlayedTruth" 283 ⟨"PlayedTruth$Strangers", "add", "(IIII)I"⟩ ∈ tbl := in_t4 (List.mem_of_getElem? (i := 128) rfl) rfl
set_option maxRecDepth 100000 in
theorem wd_285 : Jvm.Cond.methodLink "PlayedTruthLaw" 137 ⟨"PlayedTruth", "forget", "()I"⟩ ∈ tbl := in_t4 (List.mem_of_getElem? (i := 132) rfl) rfl
set_option maxRecDepth 100000 in
theorem wd_286 : Jvm.Cond.methodLink "PlayedTruthLaw" 141 ⟨"PlayedTruth", "lone", "(I)I"⟩ ∈ tbl := in_t4 (List.mem_of_getElem? (i := 136) rfl) rfl
set_option maxRecDepth 100000 in
theorem wd_287 : Jvm.Cond.methodLink "PlayedTruth" 288 ⟨"PlayedTruth$Strangers", "lookForFits", "(LPlayedTruth$Stage;)V"⟩ ∈ tbl := in_t4 (List.mem_of_getElem? (i := 140) rfl) rfl
set_option maxRecDepth 100000 in
theorem wd_288 : Jvm.Cond.methodLink "PlayedTruth$Strangers" 49 ⟨"PlayedTruth$Strangers", "lastNight", "()I"⟩ ∈ tbl := in_t4 (List.mem_of_getElem? (i := 144) rfl) rfl
set_option maxRecDepth 100000 in
theorem wd_289 : Jvm.Cond.methodLink "PlayedTruth$Strangers" 69 ⟨"java/lang/Math", "max", "(II)I"⟩ ∈ tbl := in_t4 (List.mem_of_getElem? (i := 148) rfl) rfl
set_option maxRecDepth 100000 in
theorem wd_290 : Jvm.Cond.methodLink "PlayedTruth$Strangers" 55 ⟨"PlayedTruth$Strangers", "missedBy", "(LPlayedTruth$Stage;IIII)I"⟩ ∈ tbl := in_t4 (List.mem_of_getElem? (i := 149) rfl) rfl
set_option maxRecDepth 100000 in
theorem wd_291 : Jvm.Cond.methodLink "PlayedTruth$Strangers" 75 ⟨"PlayedTruth$Strangers", "missedBehind", "(III)I"⟩ ∈ tbl := in_t4 (List.mem_of_getElem? (i := 153) rfl) rfl
set_option maxRecDepth 100000 in
theorem wd_292 : Jvm.Cond.methodLink "PlayedTruth$Strangers" 79 ⟨"PlayedTruth$Stage", "railOf", "(I)I"⟩ ∈ tbl := in_t4 (List.mem_of_getElem? (i := 157) rfl) rfl
set_option maxRecDepth 100000 in
theorem wd_293 : Jvm.Cond.methodLink "PlayedTruth$Strangers" 84 ⟨"PlayedTruth$Kind", "learns", "(IIII)I"⟩ ∈ tbl := in_t4 (List.mem_of_getElem? (i := 158) rfl) rfl
set_option maxRecDepth 100000 in
theorem wd_294 : Jvm.Cond.methodLink "PlayedTruth$Strangers" 88 ⟨"java/lang/Math", "min", "(II)I"⟩ ∈ tbl := in_t4 (List.mem_of_getElem? (i := 159) rfl) rfl
set_option maxRecDepth 100000 in
theorem wd_295 : Jvm.Cond.methodLink "PlayedTruth$Strangers" 91 ⟨"PlayedTruth$Kind", "draws", "(IIII)I"⟩ ∈ tbl := in_t4 (List.mem_of_getElem? (i := 160) rfl) rfl
set_option maxRecDepth 100000 in
theorem wd_296 : Jvm.Cond.methodLink "PlayedTruth$Strangers" 59 ⟨"PlayedTruth$Strangers", "countFit", "(III)V"⟩ ∈ tbl := in_t4 (List.mem_of_getElem? (i := 161) rfl) rfl
set_option maxRecDepth 100000 in
theorem wd_297 : Jvm.Cond.methodLink "PlayedTruth$Strangers" 63 ⟨"java/lang/Integer", "bitCount", "(I)I"⟩ ∈ tbl := in_t4 (List.mem_of_getElem? (i := 165) rfl) rfl
set_option maxRecDepth 100000 in
theorem wd_298 : Jvm.Cond.methodLink "PlayedTruthLaw" 145 ⟨"PlayedTruth", "liar", "()I"⟩ ∈ tbl := in_t4 (List.mem_of_getElem? (i := 166) rfl) rfl
set_option maxRecDepth 100000 in
theorem wd_299 : Jvm.Cond.methodLink "PlayedTruthLaw" 149 ⟨"PlayedTruth", "seed", "(I)I"⟩ ∈ tbl := in_t4 (List.mem_of_getElem? (i := 170) rfl) rfl
set_option maxRecDepth 100000 in
theorem wd_300 : Jvm.Cond.methodLink "PlayedTruthLaw" 153 ⟨"PlayedTruth", "lot", "()I"⟩ ∈ tbl := in_t4 (List.mem_of_getElem? (i := 174) rfl) rfl
set_option maxRecDepth 100000 in
theorem wd_301 : Jvm.Cond.methodLink "PlayedTruth" 310 ⟨"PlayedTruth$Stage", "goByLot", "(LPlayedTruth$Moment;)I"⟩ ∈ tbl := in_t4 (List.mem_of_getElem? (i := 178) rfl) rfl
set_option maxRecDepth 100000 in
theorem wd_302 : Jvm.Cond.constant "PlayedTruth$Stage" 134 (1103515245) ∈ tbl := in_t4 (List.mem_of_getElem? (i := 182) rfl) rfl
set_option maxRecDepth 100000 in
theorem wd_303 : Jvm.Cond.methodLink "PlayedTruth$Stage" 135 ⟨"PlayedTruth$Stage", "goBy", "(LPlayedTruth$Moment;I)I"⟩ ∈ tbl := in_t4 (List.mem_of_getElem? (i := 183) rfl) rfl
set_option maxRecDepth 100000 in
theorem wd_304 : Jvm.Cond.methodLink "PlayedTruthLaw" 157 ⟨"PlayedTruth", "times", "(II)I"⟩ ∈ tbl := in_t4 (List.mem_of_getElem? (i := 184) rfl) rfl
set_option maxRecDepth 100000 in
theorem wd_305 : Jvm.Cond.methodLink "PlayedTruth" 313 ⟨"PlayedTruth$Ahead", "timesByLot", "(II)I"⟩ ∈ tbl := in_t4 (List.mem_of_getElem? (i := 188) rfl) rfl
set_option maxRecDepth 100000 in
theorem wd_306 : Jvm.Cond.methodLink "PlayedTruth$Ahead" 93 ⟨"PlayedTruth$Stage", "goByLot", "(LPlayedTruth$Moment;)I"⟩ ∈ tbl := in_t4 (List.mem_of_getElem? (i := 192) rfl) rfl
set_option maxRecDepth 100000 in
theorem wd_307 : Jvm.Cond.methodLink "PlayedTruthLaw" 161 ⟨"PlayedTruth", "prove", "(I)I"⟩ ∈ tbl := in_t4 (List.mem_of_getElem? (i := 193) rfl) rfl
set_option maxRecDepth 100000 in
theorem wd_308 : Jvm.Cond.methodLink "PlayedTruth" 316 ⟨"PlayedTruth$Ahead", "writeRows", "([I)V"⟩ ∈ tbl := in_t4 (List.mem_of_getElem? (i := 197) rfl) rfl
set_option maxRecDepth 100000 in
theorem wd_309 : Jvm.Cond.methodLink "PlayedTruthLaw" 165 ⟨"PlayedTruth", "row", "(II)I"⟩ ∈ tbl := in_t4 (List.mem_of_getElem? (i := 201) rfl) rfl
set_option maxRecDepth 100000 in
theorem wd_310 : Jvm.Cond.methodLink "PlayedTruth" 320 ⟨"PlayedTruth", "isInRow", "(II)Z"⟩ ∈ tbl := in_t4 (List.mem_of_getElem? (i := 205) rfl) rfl
set_option maxRecDepth 100000 in
theorem wd_311 : Jvm.Cond.methodLink "PlayedTruthLaw" 169 ⟨"PlayedTruth", "alterRow", "(III)I"⟩ ∈ tbl := in_t4 (List.mem_of_getElem? (i := 209) rfl) rfl
set_option maxRecDepth 100000 in
theorem wd_312 : Jvm.Cond.methodLink "PlayedTruthLaw" 173 ⟨"PlayedTruth", "judge", "()I"⟩ ∈ tbl := in_t4 (List.mem_of_getElem? (i := 213) rfl) rfl
set_option maxRecDepth 100000 in
theorem wd_313 : Jvm.Cond.methodLink "PlayedTruth" 324 ⟨"PlayedTruth$Ahead", "firstWrongRow", "([II)I"⟩ ∈ tbl := in_t4 (List.mem_of_getElem? (i := 217) rfl) rfl
set_option maxRecDepth 100000 in
theorem wd_314 : Jvm.Cond.methodLink "PlayedTruth$Ahead" 106 ⟨"PlayedTruth$Stage", "isAct", "(I)Z"⟩ ∈ tbl := in_t4 (List.mem_of_getElem? (i := 221) rfl) rfl
set_option maxRecDepth 100000 in
theorem wd_315 : Jvm.Cond.methodLink "PlayedTruthLaw" 177 ⟨"PlayedTruth", "sheet", "(III)I"⟩ ∈ tbl := in_t4 (List.mem_of_getElem? (i := 225) rfl) rfl
set_option maxRecDepth 100000 in
theorem wd_316 : Jvm.Cond.methodLink "PlayedTruth" 328 ⟨"PlayedTruth$Host", "isSheet", "(I)Z"⟩ ∈ tbl := in_t4 (List.mem_of_getElem? (i := 229) rfl) rfl
set_option maxRecDepth 100000 in
theorem wd_317 : Jvm.Cond.methodLink "PlayedTruth" 331 ⟨"PlayedTruth$Host", "makeSheet", "(III)I"⟩ ∈ tbl := in_t4 (List.mem_of_getElem? (i := 232) rfl) rfl
set_option maxRecDepth 100000 in
theorem wd_318 : Jvm.Cond.methodLink "PlayedTruthLaw" 181 ⟨"PlayedTruth", "write", "(III)I"⟩ ∈ tbl := in_t4 (List.mem_of_getElem? (i := 236) rfl) rfl
set_option maxRecDepth 100000 in
theorem wd_319 : Jvm.Cond.methodLink "PlayedTruth" 338 ⟨"PlayedTruth$Host", "isItem", "(II)Z"⟩ ∈ tbl := in_t5 (List.mem_of_getElem? (i := 0) rfl) rfl
set_option maxRecDepth 100000 in
theorem wd_320 : Jvm.Cond.methodLink "PlayedTruth" 345 ⟨"PlayedTruth$Host", "narrowed", "(II)I"⟩ ∈ tbl := in_t5 (List.mem_of_getElem? (i := 4) rfl) rfl
set_option maxRecDepth 100000 in
theorem wd_321 : Jvm.Cond.methodLink "PlayedTruthLaw" 185 ⟨"PlayedTruth", "item", "(III)I"⟩ ∈ tbl := in_t5 (List.mem_of_getElem? (i := 7) rfl) rfl
set_option maxRecDepth 100000 in
theorem wd_322 : Jvm.Cond.methodLink "PlayedTruth" 348 ⟨"PlayedTruth$Host", "refusalOf", "(II)I"⟩ ∈ tbl := in_t5 (List.mem_of_getElem? (i := 11) rfl) rfl
set_option maxRecDepth 100000 in
theorem wd_323 : Jvm.Cond.methodLink "PlayedTruthLaw" 189 ⟨"PlayedTruth", "goAll", "(III)I"⟩ ∈ tbl := in_t5 (List.mem_of_getElem? (i := 15) rfl) rfl
set_option maxRecDepth 100000 in
theorem wd_324 : Jvm.Cond.methodLink "PlayedTruth" 351 ⟨"PlayedTruth$Stage", "isAct", "(I)Z"⟩ ∈ tbl := in_t5 (List.mem_of_getElem? (i := 19) rfl) rfl
set_option maxRecDepth 100000 in
theorem wd_325 : Jvm.Cond.methodLink "PlayedTruthLaw" 193 ⟨"PlayedTruth", "wouldBe", "(III)I"⟩ ∈ tbl := in_t5 (List.mem_of_getElem? (i := 20) rfl) rfl
set_option maxRecDepth 100000 in
theorem wd_326 : Jvm.Cond.methodLink "PlayedTruth" 354 ⟨"PlayedTruth$Ahead", "worthOfItems", "(LPlayedTruth$Host;III)I"⟩ ∈ tbl := in_t5 (List.mem_of_getElem? (i := 24) rfl) rfl
set_option maxRecDepth 100000 in
theorem wd_327 : Jvm.Cond.methodLink "PlayedTruth$Ahead" 96 ⟨"PlayedTruth$Host", "isItem", "(II)Z"⟩ ∈ tbl := in_t5 (List.mem_of_getElem? (i := 28) rfl) rfl
set_option maxRecDepth 100000 in
theorem wd_328 : Jvm.Cond.methodLink "PlayedTruthLaw" 197 ⟨"PlayedTruth", "shelf", "(III)I"⟩ ∈ tbl := in_t5 (List.mem_of_getElem? (i := 29) rfl) rfl
set_option maxRecDepth 100000 in
theorem wd_329 : Jvm.Cond.methodLink "PlayedTruth" 358 ⟨"PlayedTruth$Host", "isShelf", "(I)Z"⟩ ∈ tbl := in_t5 (List.mem_of_getElem? (i := 33) rfl) rfl
set_option maxRecDepth 100000 in
theorem wd_330 : Jvm.Cond.methodLink "PlayedTruth" 361 ⟨"PlayedTruth$Host", "hold", "(IIII)I"⟩ ∈ tbl := in_t5 (List.mem_of_getElem? (i := 36) rfl) rfl
set_option maxRecDepth 100000 in
theorem wd_331 : Jvm.Cond.methodLink "PlayedTruth" 364 ⟨"PlayedTruth$Host", "holdRow", "(II)I"⟩ ∈ tbl := in_t5 (List.mem_of_getElem? (i := 40) rfl) rfl
set_option maxRecDepth 100000 in
theorem wd_332 : Jvm.Cond.methodLink "PlayedTruth$Host" 32 ⟨"PlayedTruth$Host", "hold", "(IIII)I"⟩ ∈ tbl := in_t5 (List.mem_of_getElem? (i := 44) rfl) rfl
set_option maxRecDepth 100000 in
theorem wd_333 : Jvm.Cond.methodLink "PlayedTruthLaw" 201 ⟨"PlayedTruth", "taken", "(II)I"⟩ ∈ tbl := in_t5 (List.mem_of_getElem? (i := 45) rfl) rfl
set_option maxRecDepth 100000 in
theorem wd_334 : Jvm.Cond.methodLink "PlayedTruth" 367 ⟨"PlayedTruth", "isNothing", "(I)Z"⟩ ∈ tbl := in_t5 (List.mem_of_getElem? (i := 49) rfl) rfl
set_option maxRecDepth 100000 in
theorem wd_335 : Jvm.Cond.methodLink "PlayedTruth" 379 ⟨"PlayedTruth$Kind", "isAs", "(II)Z"⟩ ∈ tbl := in_t5 (List.mem_of_getElem? (i := 53) rfl) rfl
set_option maxRecDepth 100000 in
theorem wd_336 : Jvm.Cond.methodLink "PlayedTruthLaw" 205 ⟨"PlayedTruth", "act", "(III)I"⟩ ∈ tbl := in_t5 (List.mem_of_getElem? (i := 54) rfl) rfl
set_option maxRecDepth 100000 in
theorem wd_337 : Jvm.Cond.methodLink "PlayedTruth" 382 ⟨"PlayedTruth$Acting", "forgetBodies", "()V"⟩ ∈ tbl := in_t5 (List.mem_of_getElem? (i := 58) rfl) rfl
set_option maxRecDepth 100000 in
theorem wd_338 : Jvm.Cond.methodLink "PlayedTruth" 385 ⟨"PlayedTruth$Acting", "perform", "(IIIII)I"⟩ ∈ tbl := in_t5 (List.mem_of_getElem? (i := 62) rfl) rfl
set_option maxRecDepth 100000 in
theorem wd_339 : Jvm.Cond.methodLink "PlayedTruth$Acting" 32 ⟨"PlayedTruth$Acting", "does", "(III)I"⟩ ∈ tbl := in_t5 (List.mem_of_getElem? (i := 66) rfl) rfl
set_option maxRecDepth 100000 in
theorem wd_340 : Jvm.Cond.fieldLink "PlayedTruth$Acting" 36 "PlayedTruth$Acting" "BODY_OF" "[I" ∈ tbl := in_t5 (List.mem_of_getElem? (i := 70) rfl) rfl
set_option maxRecDepth 100000 in
theorem wd_341 : Jvm.Cond.methodLink "PlayedTruth$Acting" 39 ⟨"PlayedTruth$Acting", "run", "(III)I"⟩ ∈ tbl := in_t5 (List.mem_of_getElem? (i := 72) rfl) rfl
set_option maxRecDepth 100000 in
theorem wd_342 : Jvm.Cond.methodLink "PlayedTruth$Acting" 42 ⟨"PlayedTruth$Acting", "part", "(II)I"⟩ ∈ tbl := in_t5 (List.mem_of_getElem? (i := 76) rfl) rfl
set_option maxRecDepth 100000 in
theorem wd_343 : Jvm.Cond.methodLink "PlayedTruthLaw" 209 ⟨"PlayedTruth", "trace", "(I)I"⟩ ∈ tbl := in_t5 (List.mem_of_getElem? (i := 80) rfl) rfl
set_option maxRecDepth 100000 in
theorem wd_344 : Jvm.Cond.methodLink "PlayedTruthLaw" 213 ⟨"PlayedTruth", "many", "(I)I"⟩ ∈ tbl := in_t5 (List.mem_of_getElem? (i := 84) rfl) rfl
set_option maxRecDepth 100000 in
theorem wd_345 : Jvm.Cond.methodLink "PlayedTruthLaw" 217 ⟨"PlayedTruth", "keep", "()I"⟩ ∈ tbl := in_t5 (List.mem_of_getElem? (i := 88) rfl) rfl
set_option maxRecDepth 100000 in
theorem wd_346 : Jvm.Cond.methodLink "PlayedTruth" 393 ⟨"PlayedTruth$Stage", "copyFrom", "(LPlayedTruth$Stage;)V"⟩ ∈ tbl := in_t5 (List.mem_of_getElem? (i := 92) rfl) rfl
set_option maxRecDepth 100000 in
theorem wd_347 : Jvm.Cond.methodLink "PlayedTruth$Stage" 44 ⟨"java/lang/System", "arraycopy", "(Ljava/lang/Object;ILjava/lang/Object;II)V"⟩ ∈ tbl := in_t5 (List.mem_of_getElem? (i := 96) rfl) rfl
set_option maxRecDepth 100000 in
theorem wd_348 : Jvm.Cond.methodLink "PlayedTruth$Stage" 50 ⟨"PlayedTruth$Rules", "copyFrom", "(LPlayedTruth$Rules;)V"⟩ ∈ tbl := in_t5 (List.mem_of_getElem? (i := 97) rfl) rfl
set_option maxRecDepth 100000 in
theorem wd_349 : Jvm.Cond.methodLink "PlayedTruth" 395 ⟨"PlayedTruth$Moment", "copyFrom", "(LPlayedTruth$Moment;)V"⟩ ∈ tbl := in_t5 (List.mem_of_getElem? (i := 98) rfl) rfl
set_option maxRecDepth 100000 in
theorem wd_350 : Jvm.Cond.methodLink "PlayedTruth" 398 ⟨"PlayedTruth$Strangers", "copyFrom", "(LPlayedTruth$Strangers;)V"⟩ ∈ tbl := in_t5 (List.mem_of_getElem? (i := 99) rfl) rfl
set_option maxRecDepth 100000 in
theorem wd_351 : Jvm.Cond.methodLink "PlayedTruth$Strangers" 43 ⟨"java/lang/System", "arraycopy", "(Ljava/lang/Object;ILjava/lang/Object;II)V"⟩ ∈ tbl := in_t5 (List.mem_of_getElem? (i := 103) rfl) rfl
set_option maxRecDepth 100000 in
theorem wd_352 : Jvm.Cond.methodLink "PlayedTruthLaw" 221 ⟨"PlayedTruth", "again", "()I"⟩ ∈ tbl := in_t5 (List.mem_of_getElem? (i := 104) rfl) rfl
set_option maxRecDepth 100000 in
theorem wd_353 : Jvm.Cond.methodLink "PlayedTruthLaw" 12 ⟨"PlayedTruthModel", "<init>", "()V"⟩ ∈ tbl := in_t5 (List.mem_of_getElem? (i := 110) rfl) rfl
set_option maxRecDepth 100000 in
theorem wd_354 : Jvm.Cond.methodLink "PlayedTruthModel" 1 ⟨"java/lang/Object", "<init>", "()V"⟩ ∈ tbl := in_t5 (List.mem_of_getElem? (i := 113) rfl) rfl
set_option maxRecDepth 100000 in
theorem wd_355 : Jvm.Cond.fieldLink "PlayedTruthModel" 7 "PlayedTruthModel" "d" "[I" ∈ tbl := in_t5 (List.mem_of_getElem? (i := 114) rfl) rfl
set_option maxRecDepth 100000 in
theorem wd_356 : Jvm.Cond.fieldLink "PlayedTruthModel" 13 "PlayedTruthModel" "kept" "[I" ∈ tbl := in_t5 (List.mem_of_getElem? (i := 115) rfl) rfl
set_option maxRecDepth 100000 in
theorem wd_357 : Jvm.Cond.fieldLink "PlayedTruthModel" 426 "PlayedTruthModel" "isKept" "Z" ∈ tbl := in_t5 (List.mem_of_getElem? (i := 116) rfl) rfl
set_option maxRecDepth 100000 in
theorem wd_358 : Jvm.Cond.fieldLink "PlayedTruthModel" 16 "PlayedTruthModel" "aside" "[I" ∈ tbl := in_t5 (List.mem_of_getElem? (i := 117) rfl) rfl
set_option maxRecDepth 100000 in
theorem wd_359 : Jvm.Cond.fieldLink "PlayedTruthModel" 62 "PlayedTruthModel" "asides" "I" ∈ tbl := in_t5 (List.mem_of_getElem? (i := 118) rfl) rfl
set_option maxRecDepth 100000 in
theorem wd_360 : Jvm.Cond.fieldLink "PlayedTruthModel" 19 "PlayedTruthModel" "pile" "[I" ∈ tbl := in_t5 (List.mem_of_getElem? (i := 119) rfl) rfl
set_option maxRecDepth 100000 in
theorem wd_361 : Jvm.Cond.fieldLink "PlayedTruthModel" 22 "PlayedTruthModel" "tape" "[I" ∈ tbl := in_t5 (List.mem_of_getElem? (i := 120) rfl) rfl
set_option maxRecDepth 100000 in
theorem wd_362 : Jvm.Cond.fieldLink "PlayedTruthModel" 162 "PlayedTruthModel" "taped" "I" ∈ tbl := in_t5 (List.mem_of_getElem? (i := 121) rfl) rfl
set_option maxRecDepth 100000 in
theorem wd_363 : Jvm.Cond.fieldLink "PlayedTruthModel" 167 "PlayedTruthModel" "at" "I" ∈ tbl := in_t5 (List.mem_of_getElem? (i := 122) rfl) rfl
set_option maxRecDepth 100000 in
theorem wd_364 : Jvm.Cond.fieldLink "PlayedTruthModel" 170 "PlayedTruthModel" "begun" "I" ∈ tbl := in_t5 (List.mem_of_getElem? (i := 123) rfl) rfl
set_option maxRecDepth 100000 in
theorem wd_365 : Jvm.Cond.fieldLink "PlayedTruthModel" 177 "PlayedTruthModel" "token" "I" ∈ tbl := in_t5 (List.mem_of_getElem? (i := 124) rfl) rfl
set_option maxRecDepth 100000 in
theorem wd_366 : Jvm.Cond.fieldLink "PlayedTruthModel" 173 "PlayedTruthModel" "value" "J" ∈ tbl := in_t5 (List.mem_of_getElem? (i := 125) rfl) rfl
set_option maxRecDepth 100000 in
theorem wd_367 : Jvm.Cond.fieldLink "PlayedTruthModel" 196 "PlayedTruthModel" "isWrong" "Z" ∈ tbl := in_t5 (List.mem_of_getElem? (i := 126) rfl) rfl
set_option maxRecDepth 100000 in
theorem wd_368 : Jvm.Cond.fieldLink "PlayedTruthModel" 255 "PlayedTruthModel" "open" "I" ∈ tbl := in_t5 (List.mem_of_getElem? (i := 127) rfl) rfl
set_option maxRecDepth 100000 in
theorem wd_369 : Jvm.Cond.fieldLink "PlayedTruthModel" 25 "PlayedTruthModel" "code" "[I" ∈ tbl := in_t5 (List.mem_of_getElem? (i := 128) rfl) rfl
set_option maxRecDepth 100000 in
theorem wd_370 : Jvm.Cond.fieldLink "PlayedTruthModel" 200 "PlayedTruthModel" "coded" "I" ∈ tbl := in_t5 (List.mem_of_getElem? (i := 129) rfl) rfl
set_option maxRecDepth 100000 in
theorem wd_371 : Jvm.Cond.fieldLink "PlayedTruthModel" 28 "PlayedTruthModel" "told" "[I" ∈ tbl := in_t5 (List.mem_of_getElem? (i := 130) rfl) rfl
set_option maxRecDepth 100000 in
theorem wd_372 : Jvm.Cond.fieldLink "PlayedTruthModel" 277 "PlayedTruthModel" "tells" "I" ∈ tbl := in_t5 (List.mem_of_getElem? (i := 131) rfl) rfl
set_option maxRecDepth 100000 in
theorem wd_373 : Jvm.Cond.fieldLink "PlayedTruthModel" 31 "PlayedTruthModel" "acts" "[I" ∈ tbl := in_t5 (List.mem_of_getElem? (i := 132) rfl) rfl
set_option maxRecDepth 100000 in
theorem wd_374 : Jvm.Cond.fieldLink "PlayedTruthModel" 328 "PlayedTruthModel" "mostWorth" "I" ∈ tbl := in_t5 (List.mem_of_getElem? (i := 133) rfl) rfl
set_option maxRecDepth 100000 in
theorem wd_375 : Jvm.Cond.fieldLink "PlayedTruthModel" 335 "PlayedTruthModel" "firstBest" "I" ∈ tbl := in_t5 (List.mem_of_getElem? (i := 134) rfl) rfl
set_option maxRecDepth 100000 in
theorem wd_376 : Jvm.Cond.fieldLink "PlayedTruthModel" 338 "PlayedTruthModel" "manyBest" "I" ∈ tbl := in_t5 (List.mem_of_getElem? (i := 135) rfl) rfl
set_option maxRecDepth 100000 in
theorem wd_377 : Jvm.Cond.fieldLink "PlayedTruthModel" 349 "PlayedTruthModel" "fewest" "I" ∈ tbl := in_t5 (List.mem_of_getElem? (i := 136) rfl) rfl
set_option maxRecDepth 100000 in
theorem wd_378 : Jvm.Cond.fieldLink "PlayedTruthModel" 352 "PlayedTruthModel" "everSettled" "I" ∈ tbl := in_t5 (List.mem_of_getElem? (i := 137) rfl) rfl
set_option maxRecDepth 100000 in
theorem wd_379 : Jvm.Cond.fieldLink "PlayedTruthModel" 366 "PlayedTruthModel" "loneMany" "I" ∈ tbl := in_t5 (List.mem_of_getElem? (i := 138) rfl) rfl
set_option maxRecDepth 100000 in
theorem wd_380 : Jvm.Cond.fieldLink "PlayedTruthModel" 369 "PlayedTruthModel" "loneFirst" "I" ∈ tbl := in_t5 (List.mem_of_getElem? (i := 139) rfl) rfl
set_option maxRecDepth 100000 in
theorem wd_381 : Jvm.Cond.fieldLink "PlayedTruthModel" 34 "PlayedTruthModel" "row" "[I" ∈ tbl := in_t5 (List.mem_of_getElem? (i := 140) rfl) rfl
set_option maxRecDepth 100000 in
theorem wd_382 : Jvm.Cond.fieldLink "PlayedTruthModel" 384 "PlayedTruthModel" "rows" "I" ∈ tbl := in_t5 (List.mem_of_getElem? (i := 141) rfl) rfl
set_option maxRecDepth 100000 in
theorem wd_383 : Jvm.Cond.fieldLink "PlayedTruthModel" 37 "PlayedTruthModel" "sortOf" "[I" ∈ tbl := in_t5 (List.mem_of_getElem? (i := 142) rfl) rfl
set_option maxRecDepth 100000 in
theorem wd_384 : Jvm.Cond.fieldLink "PlayedTruthModel" 40 "PlayedTruthModel" "sizeOf" "[I" ∈ tbl := in_t5 (List.mem_of_getElem? (i := 143) rfl) rfl
set_option maxRecDepth 100000 in
theorem wd_385 : Jvm.Cond.fieldLink "PlayedTruthModel" 43 "PlayedTruthModel" "item" "[I" ∈ tbl := in_t5 (List.mem_of_getElem? (i := 144) rfl) rfl
set_option maxRecDepth 100000 in
theorem wd_386 : Jvm.Cond.fieldLink "PlayedTruthModel" 46 "PlayedTruthModel" "shelfHas" "[I" ∈ tbl := in_t5 (List.mem_of_getElem? (i := 145) rfl) rfl
set_option maxRecDepth 100000 in
theorem wd_387 : Jvm.Cond.fieldLink "PlayedTruthModel" 49 "PlayedTruthModel" "shelfWhich" "[I" ∈ tbl := in_t5 (List.mem_of_getElem? (i := 146) rfl) rfl
set_option maxRecDepth 100000 in
theorem wd_388 : Jvm.Cond.fieldLink "PlayedTruthModel" 52 "PlayedTruthModel" "shelfSize" "[I" ∈ tbl := in_t5 (List.mem_of_getElem? (i := 147) rfl) rfl
set_option maxRecDepth 100000 in
theorem wd_389 : Jvm.Cond.fieldLink "PlayedTruthModel" 55 "PlayedTruthModel" "traced" "[I" ∈ tbl := in_t5 (List.mem_of_getElem? (i := 148) rfl) rfl
set_option maxRecDepth 100000 in
theorem wd_390 : Jvm.Cond.fieldLink "PlayedTruthModel" 402 "PlayedTruthModel" "traceMany" "I" ∈ tbl := in_t5 (List.mem_of_getElem? (i := 149) rfl) rfl
set_option maxRecDepth 100000 in
theorem wd_391 : Jvm.Cond.fieldLink "PlayedTruthModel" 411 "PlayedTruthModel" "who" "I" ∈ tbl := in_t5 (List.mem_of_getElem? (i := 150) rfl) rfl
set_option maxRecDepth 100000 in
theorem wd_392 : Jvm.Cond.fieldLink "PlayedTruthModel" 405 "PlayedTruthModel" "isParted" "Z" ∈ tbl := in_t5 (List.mem_of_getElem? (i := 151) rfl) rfl
set_option maxRecDepth 100000 in
theorem wd_393 : Jvm.Cond.methodLink "PlayedTruthLaw" 17 ⟨"PlayedTruthModel", "scene", "(IIII)I"⟩ ∈ tbl := in_t5 (List.mem_of_getElem? (i := 229) rfl) rfl
set_option maxRecDepth 100000 in
theorem wd_394 : Jvm.Cond.constantLong "PlayedTruthModel" 138 (5) ∈ tbl := in_t5 (List.mem_of_getElem? (i := 233) rfl) rfl
set_option maxRecDepth 100000 in
theorem wd_395 : Jvm.Cond.methodLink "PlayedTruthModel" 58 ⟨"PlayedTruthModel", "in", "(JJJ)Z"⟩ ∈ tbl := in_t5 (List.mem_of_getElem? (i := 234) rfl) rfl
set_option maxRecDepth 100000 in
theorem wd_396 : Jvm.Cond.constantLong "PlayedTruthModel" 140 (99) ∈ tbl := in_t5 (List.mem_of_getElem? (i := 237) rfl) rfl
set_option maxRecDepth 100000 in
theorem wd_397 : Jvm.Cond.constantLong "PlayedTruthModel" 142 (9) ∈ tbl := in_t5 (List.mem_of_getElem? (i := 238) rfl) rfl
set_option maxRecDepth 100000 in
theorem wd_398 : Jvm.Cond.methodLink "PlayedTruthModel" 114 ⟨"PlayedTruthModel", "sets", "(III)V"⟩ ∈ tbl := in_t5 (List.mem_of_getElem? (i := 239) rfl) rfl
set_option maxRecDepth 100000 in
theorem wd_399 : Jvm.Cond.methodLink "PlayedTruthLaw" 22 ⟨"PlayedTruthModel", "sceneOf", "(II)I"⟩ ∈ tbl := in_t6 (List.mem_of_getElem? (i := 3) rfl) rfl
set_option maxRecDepth 100000 in
theorem wd_400 : Jvm.Cond.methodLink "PlayedTruthModel" 144 ⟨"PlayedTruthModel", "isScene", "(I)Z"⟩ ∈ tbl := in_t6 (List.mem_of_getElem? (i := 7) rfl) rfl
set_option maxRecDepth 100000 in
theorem wd_401 : Jvm.Cond.methodLink "PlayedTruthModel" 111 ⟨"PlayedTruthModel", "learns", "(I)I"⟩ ∈ tbl := in_t6 (List.mem_of_getElem? (i := 11) rfl) rfl
set_option maxRecDepth 100000 in
theorem wd_402 : Jvm.Cond.methodLink "PlayedTruthModel" 77 ⟨"PlayedTruthModel", "of", "(II)I"⟩ ∈ tbl := in_t6 (List.mem_of_getElem? (i := 15) rfl) rfl
set_option maxRecDepth 100000 in
theorem wd_403 : Jvm.Cond.methodLink "PlayedTruthModel" 81 ⟨"PlayedTruthModel", "rail", "()I"⟩ ∈ tbl := in_t6 (List.mem_of_getElem? (i := 19) rfl) rfl
set_option maxRecDepth 100000 in
theorem wd_404 : Jvm.Cond.methodLink "PlayedTruthModel" 69 ⟨"PlayedTruthModel", "houseOf", "(I)I"⟩ ∈ tbl := in_t6 (List.mem_of_getElem? (i := 23) rfl) rfl
set_option maxRecDepth 100000 in
theorem wd_405 : Jvm.Cond.methodLink "PlayedTruthModel" 85 ⟨"PlayedTruthModel", "learnsBy", "(IIII)I"⟩ ∈ tbl := in_t6 (List.mem_of_getElem? (i := 27) rfl) rfl
set_option maxRecDepth 100000 in
theorem wd_406 : Jvm.Cond.methodLink "PlayedTruthModel" 73 ⟨"PlayedTruthModel", "held", "(III)I"⟩ ∈ tbl := in_t6 (List.mem_of_getElem? (i := 30) rfl) rfl
set_option maxRecDepth 100000 in
theorem wd_407 : Jvm.Cond.methodLink "PlayedTruthModel" 89 ⟨"PlayedTruthModel", "leans", "(I)I"⟩ ∈ tbl := in_t6 (List.mem_of_getElem? (i := 33) rfl) rfl
set_option maxRecDepth 100000 in
theorem wd_408 : Jvm.Cond.methodLink "PlayedTruthModel" 121 ⟨"PlayedTruthModel", "draws", "(I)I"⟩ ∈ tbl := in_t6 (List.mem_of_getElem? (i := 37) rfl) rfl
set_option maxRecDepth 100000 in
theorem wd_409 : Jvm.Cond.methodLink "PlayedTruthModel" 92 ⟨"PlayedTruthModel", "drawsBy", "(IIII)I"⟩ ∈ tbl := in_t6 (List.mem_of_getElem? (i := 41) rfl) rfl
set_option maxRecDepth 100000 in
theorem wd_410 : Jvm.Cond.methodLink "PlayedTruthModel" 124 ⟨"PlayedTruthModel", "isMendable", "(I)Z"⟩ ∈ tbl := in_t6 (List.mem_of_getElem? (i := 44) rfl) rfl
set_option maxRecDepth 100000 in
theorem wd_411 : Jvm.Cond.methodLink "PlayedTruthModel" 108 ⟨"PlayedTruthModel", "will", "(I)I"⟩ ∈ tbl := in_t6 (List.mem_of_getElem? (i := 48) rfl) rfl
set_option maxRecDepth 100000 in
theorem wd_412 : Jvm.Cond.methodLink "PlayedTruthModel" 101 ⟨"PlayedTruthModel", "above", "(I)I"⟩ ∈ tbl := in_t6 (List.mem_of_getElem? (i := 52) rfl) rfl
set_option maxRecDepth 100000 in
theorem wd_413 : Jvm.Cond.methodLink "PlayedTruthModel" 104 ⟨"PlayedTruthModel", "holds", "(III)Z"⟩ ∈ tbl := in_t6 (List.mem_of_getElem? (i := 55) rfl) rfl
set_option maxRecDepth 100000 in
theorem wd_414 : Jvm.Cond.methodLink "PlayedTruthModel" 95 ⟨"PlayedTruthModel", "factOf", "(II)I"⟩ ∈ tbl := in_t6 (List.mem_of_getElem? (i := 59) rfl) rfl
set_option maxRecDepth 100000 in
theorem wd_415 : Jvm.Cond.methodLink "PlayedTruthModel" 98 ⟨"PlayedTruthModel", "done", "(III)I"⟩ ∈ tbl := in_t6 (List.mem_of_getElem? (i := 63) rfl) rfl
set_option maxRecDepth 100000 in
theorem wd_416 : Jvm.Cond.methodLink "PlayedTruthLaw" 27 ⟨"PlayedTruthModel", "change", "(III)I"⟩ ∈ tbl := in_t6 (List.mem_of_getElem? (i := 66) rfl) rfl
set_option maxRecDepth 100000 in
theorem wd_417 : Jvm.Cond.methodLink "PlayedTruthModel" 147 ⟨"PlayedTruthModel", "becomes", "(II)I"⟩ ∈ tbl := in_t6 (List.mem_of_getElem? (i := 70) rfl) rfl
set_option maxRecDepth 100000 in
theorem wd_418 : Jvm.Cond.methodLink "PlayedTruthLaw" 31 ⟨"PlayedTruthModel", "remake", "(II)I"⟩ ∈ tbl := in_t6 (List.mem_of_getElem? (i := 74) rfl) rfl
set_option maxRecDepth 100000 in
theorem wd_419 : Jvm.Cond.methodLink "PlayedTruthLaw" 35 ⟨"PlayedTruthModel", "house", "(II)I"⟩ ∈ tbl := in_t6 (List.mem_of_getElem? (i := 78) rfl) rfl
set_option maxRecDepth 100000 in
theorem wd_420 : Jvm.Cond.constantLong "PlayedTruthModel" 150 (15) ∈ tbl := in_t6 (List.mem_of_getElem? (i := 82) rfl) rfl
set_option maxRecDepth 100000 in
theorem wd_421 : Jvm.Cond.methodLink "PlayedTruthLaw" 39 ⟨"PlayedTruthModel", "place", "(III)I"⟩ ∈ tbl := in_t6 (List.mem_of_getElem? (i := 83) rfl) rfl
set_option maxRecDepth 100000 in
theorem wd_422 : Jvm.Cond.methodLink "PlayedTruthLaw" 43 ⟨"PlayedTruthModel", "placeOf", "(II)I"⟩ ∈ tbl := in_t6 (List.mem_of_getElem? (i := 87) rfl) rfl
set_option maxRecDepth 100000 in
theorem wd_423 : Jvm.Cond.methodLink "PlayedTruthLaw" 48 ⟨"PlayedTruthModel", "ends", "(I)I"⟩ ∈ tbl := in_t6 (List.mem_of_getElem? (i := 91) rfl) rfl
set_option maxRecDepth 100000 in
theorem wd_424 : Jvm.Cond.constantLong "PlayedTruthModel" 152 (16) ∈ tbl := in_t6 (List.mem_of_getElem? (i := 95) rfl) rfl
set_option maxRecDepth 100000 in
theorem wd_425 : Jvm.Cond.methodLink "PlayedTruthLaw" 53 ⟨"PlayedTruthModel", "anew", "()I"⟩ ∈ tbl := in_t6 (List.mem_of_getElem? (i := 96) rfl) rfl
set_option maxRecDepth 100000 in
theorem wd_426 : Jvm.Cond.methodLink "PlayedTruthLaw" 57 ⟨"PlayedTruthModel", "state", "(I)I"⟩ ∈ tbl := in_t6 (List.mem_of_getElem? (i := 100) rfl) rfl
set_option maxRecDepth 100000 in
theorem wd_427 : Jvm.Cond.methodLink "PlayedTruthModel" 128 ⟨"PlayedTruthModel", "isOver", "()Z"⟩ ∈ tbl := in_t6 (List.mem_of_getElem? (i := 104) rfl) rfl
set_option maxRecDepth 100000 in
theorem wd_428 : Jvm.Cond.methodLink "PlayedTruthModel" 154 ⟨"PlayedTruthModel", "settled", "()I"⟩ ∈ tbl := in_t6 (List.mem_of_getElem? (i := 108) rfl) rfl
set_option maxRecDepth 100000 in
theorem wd_429 : Jvm.Cond.methodLink "PlayedTruthModel" 157 ⟨"PlayedTruthModel", "truthAll", "()I"⟩ ∈ tbl := in_t6 (List.mem_of_getElem? (i := 112) rfl) rfl
set_option maxRecDepth 100000 in
theorem wd_430 : Jvm.Cond.methodLink "PlayedTruthLaw" 64 ⟨"PlayedTruthModel", "feed", "(JI)I"⟩ ∈ tbl := in_t6 (List.mem_of_getElem? (i := 116) rfl) rfl
set_option maxRecDepth 100000 in
theorem wd_431 : Jvm.Cond.constantLong "PlayedTruthModel" 160 (8) ∈ tbl := in_t6 (List.mem_of_getElem? (i := 120) rfl) rfl
set_option maxRecDepth 100000 in
theorem wd_432 : Jvm.Cond.constantLong "PlayedTruthModel" 165 (255) ∈ tbl := in_t6 (List.mem_of_getElem? (i := 121) rfl) rfl
set_option maxRecDepth 100000 in
theorem wd_433 : Jvm.Cond.methodLink "PlayedTruthLaw" 68 ⟨"PlayedTruthModel", "rules", "()I"⟩ ∈ tbl := in_t6 (List.mem_of_getElem? (i := 122) rfl) rfl
set_option maxRecDepth 100000 in
theorem wd_434 : Jvm.Cond.methodLink "PlayedTruthModel" 235 ⟨"PlayedTruthModel", "next", "()V"⟩ ∈ tbl := in_t6 (List.mem_of_getElem? (i := 126) rfl) rfl
set_option maxRecDepth 100000 in
theorem wd_435 : Jvm.Cond.methodLink "PlayedTruthModel" 180 ⟨"PlayedTruthModel", "isRow", "(CC)Z"⟩ ∈ tbl := in_t6 (List.mem_of_getElem? (i := 130) rfl) rfl
set_option maxRecDepth 100000 in
theorem wd_436 : Jvm.Cond.constantLong "PlayedTruthModel" 184 (27) ∈ tbl := in_t6 (List.mem_of_getElem? (i := 134) rfl) rfl
set_option maxRecDepth 100000 in
theorem wd_437 : Jvm.Cond.constantLong "PlayedTruthModel" 186 (97) ∈ tbl := in_t6 (List.mem_of_getElem? (i := 135) rfl) rfl
set_option maxRecDepth 100000 in
theorem wd_438 : Jvm.Cond.constantLong "PlayedTruthModel" 188 (-1) ∈ tbl := in_t6 (List.mem_of_getElem? (i := 136) rfl) rfl
set_option maxRecDepth 100000 in
theorem wd_439 : Jvm.Cond.constantLong "PlayedTruthModel" 190 (10) ∈ tbl := in_t6 (List.mem_of_getElem? (i := 137) rfl) rfl
set_option maxRecDepth 100000 in
theorem wd_440 : Jvm.Cond.constantLong "PlayedTruthModel" 192 (48) ∈ tbl := in_t6 (List.mem_of_getElem? (i := 138) rfl) rfl
set_option maxRecDepth 100000 in
theorem wd_441 : Jvm.Cond.constantLong "PlayedTruthModel" 194 (100000) ∈ tbl := in_t6 (List.mem_of_getElem? (i := 139) rfl) rfl
set_option maxRecDepth 100000 in
theorem wd_442 : Jvm.Cond.methodLink "PlayedTruthModel" 285 ⟨"PlayedTruthModel", "ruleHere", "()V"⟩ ∈ tbl := in_t6 (List.mem_of_getElem? (i := 140) rfl) rfl
set_option maxRecDepth 100000 in
theorem wd_443 : Jvm.Cond.methodLink "PlayedTruthModel" 274 ⟨"PlayedTruthModel", "kindHere", "()I"⟩ ∈ tbl := in_t6 (List.mem_of_getElem? (i := 144) rfl) rfl
set_option maxRecDepth 100000 in
theorem wd_444 : Jvm.Cond.constantLong "PlayedTruthModel" 203 (10160456) ∈ tbl := in_t6 (List.mem_of_getElem? (i := 148) rfl) rfl
set_option maxRecDepth 100000 in
theorem wd_445 : Jvm.Cond.methodLink "PlayedTruthModel" 205 ⟨"PlayedTruthModel", "isWord", "(J)Z"⟩ ∈ tbl := in_t6 (List.mem_of_getElem? (i := 149) rfl) rfl
set_option maxRecDepth 100000 in
theorem wd_446 : Jvm.Cond.constantLong "PlayedTruthModel" 209 (10989714) ∈ tbl := in_t6 (List.mem_of_getElem? (i := 153) rfl) rfl
set_option maxRecDepth 100000 in
theorem wd_447 : Jvm.Cond.constantLong "PlayedTruthModel" 211 (94196) ∈ tbl := in_t6 (List.mem_of_getElem? (i := 154) rfl) rfl
set_option maxRecDepth 100000 in
theorem wd_448 : Jvm.Cond.constantLong "PlayedTruthModel" 213 (284079062) ∈ tbl := in_t6 (List.mem_of_getElem? (i := 155) rfl) rfl
set_option maxRecDepth 100000 in
theorem wd_449 : Jvm.Cond.constantLong "PlayedTruthModel" 215 (1960177) ∈ tbl := in_t6 (List.mem_of_getElem? (i := 156) rfl) rfl
set_option maxRecDepth 100000 in
theorem wd_450 : Jvm.Cond.constantLong "PlayedTruthModel" 217 (6943085) ∈ tbl := in_t6 (List.mem_of_getElem? (i := 157) rfl) rfl
set_option maxRecDepth 100000 in
theorem wd_451 : Jvm.Cond.methodLink "PlayedTruthModel" 245 ⟨"PlayedTruthModel", "goesBy", "(Z)V"⟩ ∈ tbl := in_t6 (List.mem_of_getElem? (i := 158) rfl) rfl
set_option maxRecDepth 100000 in
theorem wd_452 : Jvm.Cond.constantLong "PlayedTruthModel" 280 (249) ∈ tbl := in_t6 (List.mem_of_getElem? (i := 162) rfl) rfl
set_option maxRecDepth 100000 in
theorem wd_453 : Jvm.Cond.methodLink "PlayedTruthModel" 258 ⟨"PlayedTruthModel", "either", "()V"⟩ ∈ tbl := in_t6 (List.mem_of_getElem? (i := 163) rfl) rfl
set_option maxRecDepth 100000 in
theorem wd_454 : Jvm.Cond.methodLink "PlayedTruthModel" 269 ⟨"PlayedTruthModel", "both", "()V"⟩ ∈ tbl := in_t6 (List.mem_of_getElem? (i := 167) rfl) rfl
set_option maxRecDepth 100000 in
theorem wd_455 : Jvm.Cond.methodLink "PlayedTruthModel" 264 ⟨"PlayedTruthModel", "one", "()V"⟩ ∈ tbl := in_t6 (List.mem_of_getElem? (i := 171) rfl) rfl
set_option maxRecDepth 100000 in
theorem wd_456 : Jvm.Cond.constantLong "PlayedTruthModel" 249 (10631) ∈ tbl := in_t6 (List.mem_of_getElem? (i := 175) rfl) rfl
set_option maxRecDepth 100000 in
theorem wd_457 : Jvm.Cond.methodLink "PlayedTruthModel" 251 ⟨"PlayedTruthModel", "isByte", "(C)Z"⟩ ∈ tbl := in_t6 (List.mem_of_getElem? (i := 176) rfl) rfl
set_option maxRecDepth 100000 in
theorem wd_458 : Jvm.Cond.methodLink "PlayedTruthModel" 261 ⟨"PlayedTruthModel", "valueHere", "()V"⟩ ∈ tbl := in_t6 (List.mem_of_getElem? (i := 180) rfl) rfl
set_option maxRecDepth 100000 in
theorem wd_459 : Jvm.Cond.methodLink "PlayedTruthModel" 238 ⟨"PlayedTruthModel", "factHere", "()I"⟩ ∈ tbl := in_t6 (List.mem_of_getElem? (i := 184) rfl) rfl
set_option maxRecDepth 100000 in
theorem wd_460 : Jvm.Cond.constantLong "PlayedTruthModel" 225 (7622660) ∈ tbl := in_t6 (List.mem_of_getElem? (i := 188) rfl) rfl
set_option maxRecDepth 100000 in
theorem wd_461 : Jvm.Cond.constantLong "PlayedTruthModel" 227 (10998971) ∈ tbl := in_t6 (List.mem_of_getElem? (i := 189) rfl) rfl
set_option maxRecDepth 100000 in
theorem wd_462 : Jvm.Cond.constantLong "PlayedTruthModel" 229 (239262010) ∈ tbl := in_t6 (List.mem_of_getElem? (i := 190) rfl) rfl
set_option maxRecDepth 100000 in
theorem wd_463 : Jvm.Cond.constantLong "PlayedTruthModel" 231 (355278) ∈ tbl := in_t6 (List.mem_of_getElem? (i := 191) rfl) rfl
set_option maxRecDepth 100000 in
theorem wd_464 : Jvm.Cond.constantLong "PlayedTruthModel" 233 (212302449) ∈ tbl := in_t6 (List.mem_of_getElem? (i := 192) rfl) rfl
set_option maxRecDepth 100000 in
theorem wd_465 : Jvm.Cond.methodLink "PlayedTruthModel" 241 ⟨"PlayedTruthModel", "lays", "(I)V"⟩ ∈ tbl := in_t6 (List.mem_of_getElem? (i := 193) rfl) rfl
set_option maxRecDepth 100000 in
theorem wd_466 : Jvm.Cond.constantLong "PlayedTruthModel" 267 (1111) ∈ tbl := in_t6 (List.mem_of_getElem? (i := 197) rfl) rfl
set_option maxRecDepth 100000 in
theorem wd_467 : Jvm.Cond.constantLong "PlayedTruthModel" 272 (423) ∈ tbl := in_t6 (List.mem_of_getElem? (i := 198) rfl) rfl
set_option maxRecDepth 100000 in
theorem wd_468 : Jvm.Cond.methodLink "PlayedTruthModel" 282 ⟨"PlayedTruthModel", "doHere", "()I"⟩ ∈ tbl := in_t6 (List.mem_of_getElem? (i := 199) rfl) rfl
set_option maxRecDepth 100000 in
theorem wd_469 : Jvm.Cond.constantLong "PlayedTruthModel" 219 (259906) ∈ tbl := in_t6 (List.mem_of_getElem? (i := 203) rfl) rfl
set_option maxRecDepth 100000 in
theorem wd_470 : Jvm.Cond.constantLong "PlayedTruthModel" 221 (220309) ∈ tbl := in_t6 (List.mem_of_getElem? (i := 204) rfl) rfl
set_option maxRecDepth 100000 in
theorem wd_471 : Jvm.Cond.constantLong "PlayedTruthModel" 223 (407038) ∈ tbl := in_t6 (List.mem_of_getElem? (i := 205) rfl) rfl
set_option maxRecDepth 100000 in
theorem wd_472 : Jvm.Cond.methodLink "PlayedTruthLaw" 72 ⟨"PlayedTruthModel", "night", "()I"⟩ ∈ tbl := in_t6 (List.mem_of_getElem? (i := 206) rfl) rfl
set_option maxRecDepth 100000 in
theorem wd_473 : Jvm.Cond.methodLink "PlayedTruthModel" 132 ⟨"PlayedTruthModel", "actOfRest", "()I"⟩ ∈ tbl := in_t6 (List.mem_of_getElem? (i := 210) rfl) rfl
set_option maxRecDepth 100000 in
theorem wd_474 : Jvm.Cond.methodLink "PlayedTruthModel" 135 ⟨"PlayedTruthModel", "nightGoes", "(I)I"⟩ ∈ tbl := in_t6 (List.mem_of_getElem? (i := 214) rfl) rfl
set_option maxRecDepth 100000 in
theorem wd_475 : Jvm.Cond.methodLink "PlayedTruthModel" 118 ⟨"PlayedTruthModel", "does", "(I)I"⟩ ∈ tbl := in_t6 (List.mem_of_getElem? (i := 218) rfl) rfl
set_option maxRecDepth 100000 in
theorem wd_476 : Jvm.Cond.methodLink "PlayedTruthLaw" 76 ⟨"PlayedTruthModel", "on", "(I)I"⟩ ∈ tbl := in_t6 (List.mem_of_getElem? (i := 222) rfl) rfl
set_option maxRecDepth 100000 in
theorem wd_477 : Jvm.Cond.methodLink "PlayedTruthModel" 288 ⟨"PlayedTruthModel", "puts", "()V"⟩ ∈ tbl := in_t6 (List.mem_of_getElem? (i := 226) rfl) rfl
set_option maxRecDepth 100000 in
theorem wd_478 : Jvm.Cond.methodLink "PlayedTruthModel" 291 ⟨"PlayedTruthModel", "restGoes", "(I)I"⟩ ∈ tbl := in_t6 (List.mem_of_getElem? (i := 230) rfl) rfl
set_option maxRecDepth 100000 in
theorem wd_479 : Jvm.Cond.methodLink "PlayedTruthModel" 294 ⟨"PlayedTruthModel", "takes", "()V"⟩ ∈ tbl := in_t6 (List.mem_of_getElem? (i := 234) rfl) rfl
set_option maxRecDepth 100000 in
theorem wd_480 : Jvm.Cond.methodLink "PlayedTruthModel" 66 ⟨"PlayedTruthModel", "back", "()V"⟩ ∈ tbl := in_t6 (List.mem_of_getElem? (i := 238) rfl) rfl
set_option maxRecDepth 100000 in
theorem wd_481 : Jvm.Cond.methodLink "PlayedTruthLaw" 80 ⟨"PlayedTruthModel", "when", "(I)I"⟩ ∈ tbl := in_t7 (List.mem_of_getElem? (i := 2) rfl) rfl
set_option maxRecDepth 100000 in
theorem wd_482 : Jvm.Cond.methodLink "PlayedTruthLaw" 84 ⟨"PlayedTruthModel", "prettyFor", "(I)I"⟩ ∈ tbl := in_t7 (List.mem_of_getElem? (i := 6) rfl) rfl
set_option maxRecDepth 100000 in
theorem wd_483 : Jvm.Cond.methodLink "PlayedTruthModel" 297 ⟨"PlayedTruthModel", "bestOf", "(III)I"⟩ ∈ tbl := in_t7 (List.mem_of_getElem? (i := 10) rfl) rfl
set_option maxRecDepth 100000 in
theorem wd_484 : Jvm.Cond.methodLink "PlayedTruthLaw" 88 ⟨"PlayedTruthModel", "placeFor", "(I)I"⟩ ∈ tbl := in_t7 (List.mem_of_getElem? (i := 14) rfl) rfl
set_option maxRecDepth 100000 in
theorem wd_485 : Jvm.Cond.methodLink "PlayedTruthLaw" 92 ⟨"PlayedTruthModel", "truth", "(I)I"⟩ ∈ tbl := in_t7 (List.mem_of_getElem? (i := 18) rfl) rfl
set_option maxRecDepth 100000 in
theorem wd_486 : Jvm.Cond.constantLong "PlayedTruthModel" 300 (594) ∈ tbl := in_t7 (List.mem_of_getElem? (i := 22) rfl) rfl
set_option maxRecDepth 100000 in
theorem wd_487 : Jvm.Cond.methodLink "PlayedTruthLaw" 96 ⟨"PlayedTruthModel", "props", "(I)I"⟩ ∈ tbl := in_t7 (List.mem_of_getElem? (i := 23) rfl) rfl
set_option maxRecDepth 100000 in
theorem wd_488 : Jvm.Cond.methodLink "PlayedTruthModel" 302 ⟨"PlayedTruthModel", "scenesAt", "(I)I"⟩ ∈ tbl := in_t7 (List.mem_of_getElem? (i := 27) rfl) rfl
set_option maxRecDepth 100000 in
theorem wd_489 : Jvm.Cond.methodLink "PlayedTruthLaw" 100 ⟨"PlayedTruthModel", "strands", "(I)I"⟩ ∈ tbl := in_t7 (List.mem_of_getElem? (i := 31) rfl) rfl
set_option maxRecDepth 100000 in
theorem wd_490 : Jvm.Cond.methodLink "PlayedTruthModel" 312 ⟨"PlayedTruthModel", "strandOf", "(I)I"⟩ ∈ tbl := in_t7 (List.mem_of_getElem? (i := 35) rfl) rfl
set_option maxRecDepth 100000 in
theorem wd_491 : Jvm.Cond.methodLink "PlayedTruthModel" 308 ⟨"PlayedTruthModel", "isClose", "(II)Z"⟩ ∈ tbl := in_t7 (List.mem_of_getElem? (i := 39) rfl) rfl
set_option maxRecDepth 100000 in
theorem wd_492 : Jvm.Cond.methodLink "PlayedTruthModel" 305 ⟨"PlayedTruthModel", "size", "(I)I"⟩ ∈ tbl := in_t7 (List.mem_of_getElem? (i := 43) rfl) rfl
set_option maxRecDepth 100000 in
theorem wd_493 : Jvm.Cond.methodLink "PlayedTruthLaw" 104 ⟨"PlayedTruthModel", "billing", "(I)I"⟩ ∈ tbl := in_t7 (List.mem_of_getElem? (i := 46) rfl) rfl
set_option maxRecDepth 100000 in
theorem wd_494 : Jvm.Cond.constantLong "PlayedTruthModel" 315 (999) ∈ tbl := in_t7 (List.mem_of_getElem? (i := 50) rfl) rfl
set_option maxRecDepth 100000 in
theorem wd_495 : Jvm.Cond.methodLink "PlayedTruthModel" 317 ⟨"PlayedTruthModel", "ones", "(I)I"⟩ ∈ tbl := in_t7 (List.mem_of_getElem? (i := 51) rfl) rfl
set_option maxRecDepth 100000 in
theorem wd_496 : Jvm.Cond.methodLink "PlayedTruthLaw" 108 ⟨"PlayedTruthModel", "best", "(I)I"⟩ ∈ tbl := in_t7 (List.mem_of_getElem? (i := 54) rfl) rfl
set_option maxRecDepth 100000 in
theorem wd_497 : Jvm.Cond.methodLink "PlayedTruthModel" 341 ⟨"PlayedTruthModel", "isPlan", "(I)Z"⟩ ∈ tbl := in_t7 (List.mem_of_getElem? (i := 58) rfl) rfl
set_option maxRecDepth 100000 in
theorem wd_498 : Jvm.Cond.constantLong "PlayedTruthModel" 320 (4) ∈ tbl := in_t7 (List.mem_of_getElem? (i := 61) rfl) rfl
set_option maxRecDepth 100000 in
theorem wd_499 : Jvm.Cond.methodLink "PlayedTruthModel" 344 ⟨"PlayedTruthModel", "findBest", "(I)V"⟩ ∈ tbl := in_t7 (List.mem_of_getElem? (i := 62) rfl) rfl
set_option maxRecDepth 100000 in
theorem wd_500 : Jvm.Cond.methodLink "PlayedTruthModel" 322 ⟨"PlayedTruthModel", "longOf", "(I)I"⟩ ∈ tbl := in_t7 (List.mem_of_getElem? (i := 66) rfl) rfl
set_option maxRecDepth 100000 in
theorem wd_501 : Jvm.Cond.methodLink "PlayedTruthModel" 325 ⟨"PlayedTruthModel", "plansOf", "(I)I"⟩ ∈ tbl := in_t7 (List.mem_of_getElem? (i := 70) rfl) rfl
set_option maxRecDepth 100000 in
theorem wd_502 : Jvm.Cond.methodLink "PlayedTruthModel" 331 ⟨"PlayedTruthModel", "actsOf", "(II)V"⟩ ∈ tbl := in_t7 (List.mem_of_getElem? (i := 74) rfl) rfl
set_option maxRecDepth 100000 in
theorem wd_503 : Jvm.Cond.methodLink "PlayedTruthLaw" 112 ⟨"PlayedTruthModel", "ith", "(II)I"⟩ ∈ tbl := in_t7 (List.mem_of_getElem? (i := 78) rfl) rfl
set_option maxRecDepth 100000 in
theorem wd_504 : Jvm.Cond.constantLong "PlayedTruthModel" 347 (3) ∈ tbl := in_t7 (List.mem_of_getElem? (i := 82) rfl) rfl
set_option maxRecDepth 100000 in
theorem wd_505 : Jvm.Cond.methodLink "PlayedTruthLaw" 116 ⟨"PlayedTruthModel", "ways", "(I)I"⟩ ∈ tbl := in_t7 (List.mem_of_getElem? (i := 83) rfl) rfl
set_option maxRecDepth 100000 in
theorem wd_506 : Jvm.Cond.methodLink "PlayedTruthLaw" 120 ⟨"PlayedTruthModel", "bill", "(II)I"⟩ ∈ tbl := in_t7 (List.mem_of_getElem? (i := 87) rfl) rfl
set_option maxRecDepth 100000 in
theorem wd_507 : Jvm.Cond.methodLink "PlayedTruthModel" 355 ⟨"PlayedTruthModel", "areScenes", "(I)Z"⟩ ∈ tbl := in_t7 (List.mem_of_getElem? (i := 91) rfl) rfl
set_option maxRecDepth 100000 in
theorem wd_508 : Jvm.Cond.methodLink "PlayedTruthModel" 358 ⟨"PlayedTruthModel", "findBills", "(II)V"⟩ ∈ tbl := in_t7 (List.mem_of_getElem? (i := 95) rfl) rfl
set_option maxRecDepth 100000 in
theorem wd_509 : Jvm.Cond.methodLink "PlayedTruthLaw" 124 ⟨"PlayedTruthModel", "bars", "(II)I"⟩ ∈ tbl := in_t7 (List.mem_of_getElem? (i := 99) rfl) rfl
set_option maxRecDepth 100000 in
theorem wd_510 : Jvm.Cond.methodLink "PlayedTruthLaw" 128 ⟨"PlayedTruthModel", "game", "(I)I"⟩ ∈ tbl := in_t7 (List.mem_of_getElem? (i := 103) rfl) rfl
set_option maxRecDepth 100000 in
theorem wd_511 : Jvm.Cond.methodLink "PlayedTruthModel" 362 ⟨"PlayedTruthModel", "valueOf", "(IZ)I"⟩ ∈ tbl := in_t7 (List.mem_of_getElem? (i := 107) rfl) rfl
set_option maxRecDepth 100000 in
theorem wd_512 : Jvm.Cond.constant "PlayedTruthModel" 361 (1000000) ∈ tbl := in_t7 (List.mem_of_getElem? (i := 111) rfl) rfl
set_option maxRecDepth 100000 in
theorem wd_513 : Jvm.Cond.methodLink "PlayedTruthLaw" 132 ⟨"PlayedTruthModel", "play", "(I)I"⟩ ∈ tbl := in_t7 (List.mem_of_getElem? (i := 112) rfl) rfl
set_option maxRecDepth 100000 in
theorem wd_514 : Jvm.Cond.methodLink "PlayedTruthLaw" 136 ⟨"PlayedTruthModel", "report", "(IIII)I"⟩ ∈ tbl := in_t7 (List.mem_of_getElem? (i := 116) rfl) rfl
set_option maxRecDepth 100000 in
theorem wd_515 : Jvm.Cond.methodLink "PlayedTruthLaw" 140 ⟨"PlayedTruthModel", "forget", "()I"⟩ ∈ tbl := in_t7 (List.mem_of_getElem? (i := 120) rfl) rfl
set_option maxRecDepth 100000 in
theorem wd_516 : Jvm.Cond.methodLink "PlayedTruthLaw" 144 ⟨"PlayedTruthModel", "lone", "(I)I"⟩ ∈ tbl := in_t7 (List.mem_of_getElem? (i := 124) rfl) rfl
set_option maxRecDepth 100000 in
theorem wd_517 : Jvm.Cond.methodLink "PlayedTruthModel" 375 ⟨"PlayedTruthModel", "findLone", "(I)V"⟩ ∈ tbl := in_t7 (List.mem_of_getElem? (i := 128) rfl) rfl
set_option maxRecDepth 100000 in
theorem wd_518 : Jvm.Cond.methodLink "PlayedTruthModel" 372 ⟨"PlayedTruthModel", "fitting", "(III)I"⟩ ∈ tbl := in_t7 (List.mem_of_getElem? (i := 132) rfl) rfl
set_option maxRecDepth 100000 in
theorem wd_519 : Jvm.Cond.methodLink "PlayedTruthLaw" 148 ⟨"PlayedTruthModel", "liar", "()I"⟩ ∈ tbl := in_t7 (List.mem_of_getElem? (i := 136) rfl) rfl
set_option maxRecDepth 100000 in
theorem wd_520 : Jvm.Cond.methodLink "PlayedTruthLaw" 152 ⟨"PlayedTruthModel", "seed", "(I)I"⟩ ∈ tbl := in_t7 (List.mem_of_getElem? (i := 140) rfl) rfl
set_option maxRecDepth 100000 in
theorem wd_521 : Jvm.Cond.methodLink "PlayedTruthLaw" 156 ⟨"PlayedTruthModel", "lot", "()I"⟩ ∈ tbl := in_t7 (List.mem_of_getElem? (i := 144) rfl) rfl
set_option maxRecDepth 100000 in
theorem wd_522 : Jvm.Cond.methodLink "PlayedTruthModel" 379 ⟨"PlayedTruthModel", "lotGoes", "()I"⟩ ∈ tbl := in_t7 (List.mem_of_getElem? (i := 148) rfl) rfl
set_option maxRecDepth 100000 in
theorem wd_523 : Jvm.Cond.constant "PlayedTruthModel" 378 (1103515245) ∈ tbl := in_t7 (List.mem_of_getElem? (i := 152) rfl) rfl
set_option maxRecDepth 100000 in
theorem wd_524 : Jvm.Cond.methodLink "PlayedTruthLaw" 160 ⟨"PlayedTruthModel", "times", "(II)I"⟩ ∈ tbl := in_t7 (List.mem_of_getElem? (i := 153) rfl) rfl
set_option maxRecDepth 100000 in
theorem wd_525 : Jvm.Cond.constantLong "PlayedTruthModel" 382 (40) ∈ tbl := in_t7 (List.mem_of_getElem? (i := 157) rfl) rfl
set_option maxRecDepth 100000 in
theorem wd_526 : Jvm.Cond.methodLink "PlayedTruthLaw" 164 ⟨"PlayedTruthModel", "prove", "(I)I"⟩ ∈ tbl := in_t7 (List.mem_of_getElem? (i := 158) rfl) rfl
set_option maxRecDepth 100000 in
theorem wd_527 : Jvm.Cond.methodLink "PlayedTruthLaw" 168 ⟨"PlayedTruthModel", "row", "(II)I"⟩ ∈ tbl := in_t7 (List.mem_of_getElem? (i := 162) rfl) rfl
set_option maxRecDepth 100000 in
theorem wd_528 : Jvm.Cond.constantLong "PlayedTruthModel" 387 (2) ∈ tbl := in_t7 (List.mem_of_getElem? (i := 166) rfl) rfl
set_option maxRecDepth 100000 in
theorem wd_529 : Jvm.Cond.methodLink "PlayedTruthLaw" 172 ⟨"PlayedTruthModel", "alterRow", "(III)I"⟩ ∈ tbl := in_t7 (List.mem_of_getElem? (i := 167) rfl) rfl
set_option maxRecDepth 100000 in
theorem wd_530 : Jvm.Cond.methodLink "PlayedTruthLaw" 176 ⟨"PlayedTruthModel", "judge", "()I"⟩ ∈ tbl := in_t7 (List.mem_of_getElem? (i := 171) rfl) rfl
set_option maxRecDepth 100000 in
theorem wd_531 : Jvm.Cond.methodLink "PlayedTruthLaw" 180 ⟨"PlayedTruthModel", "sheet", "(III)I"⟩ ∈ tbl := in_t7 (List.mem_of_getElem? (i := 175) rfl) rfl
set_option maxRecDepth 100000 in
theorem wd_532 : Jvm.Cond.methodLink "PlayedTruthModel" 389 ⟨"PlayedTruthModel", "isSheet", "(I)Z"⟩ ∈ tbl := in_t7 (List.mem_of_getElem? (i := 179) rfl) rfl
set_option maxRecDepth 100000 in
theorem wd_533 : Jvm.Cond.methodLink "PlayedTruthLaw" 184 ⟨"PlayedTruthModel", "write", "(III)I"⟩ ∈ tbl := in_t7 (List.mem_of_getElem? (i := 182) rfl) rfl
set_option maxRecDepth 100000 in
theorem wd_534 : Jvm.Cond.methodLink "PlayedTruthLaw" 188 ⟨"PlayedTruthModel", "item", "(III)I"⟩ ∈ tbl := in_t7 (List.mem_of_getElem? (i := 186) rfl) rfl
set_option maxRecDepth 100000 in
theorem wd_535 : Jvm.Cond.methodLink "PlayedTruthLaw" 192 ⟨"PlayedTruthModel", "goAll", "(III)I"⟩ ∈ tbl := in_t7 (List.mem_of_getElem? (i := 190) rfl) rfl
set_option maxRecDepth 100000 in
theorem wd_536 : Jvm.Cond.methodLink "PlayedTruthModel" 394 ⟨"PlayedTruthModel", "whyNoBytes", "(II)I"⟩ ∈ tbl := in_t7 (List.mem_of_getElem? (i := 194) rfl) rfl
set_option maxRecDepth 100000 in
theorem wd_537 : Jvm.Cond.constantLong "PlayedTruthModel" 392 (20) ∈ tbl := in_t7 (List.mem_of_getElem? (i := 198) rfl) rfl
set_option maxRecDepth 100000 in
theorem wd_538 : Jvm.Cond.methodLink "PlayedTruthLaw" 196 ⟨"PlayedTruthModel", "wouldBe", "(III)I"⟩ ∈ tbl := in_t7 (List.mem_of_getElem? (i := 199) rfl) rfl
set_option maxRecDepth 100000 in
theorem wd_539 : Jvm.Cond.methodLink "PlayedTruthLaw" 200 ⟨"PlayedTruthModel", "shelf", "(III)I"⟩ ∈ tbl := in_t7 (List.mem_of_getElem? (i := 203) rfl) rfl
set_option maxRecDepth 100000 in
theorem wd_540 : Jvm.Cond.methodLink "PlayedTruthLaw" 204 ⟨"PlayedTruthModel", "taken", "(II)I"⟩ ∈ tbl := in_t7 (List.mem_of_getElem? (i := 207) rfl) rfl
set_option maxRecDepth 100000 in
theorem wd_541 : Jvm.Cond.constantLong "PlayedTruthModel" 397 (14) ∈ tbl := in_t7 (List.mem_of_getElem? (i := 211) rfl) rfl
set_option maxRecDepth 100000 in
theorem wd_542 : Jvm.Cond.methodLink "PlayedTruthModel" 399 ⟨"PlayedTruthModel", "holdsNothing", "(I)Z"⟩ ∈ tbl := in_t7 (List.mem_of_getElem? (i := 212) rfl) rfl
set_option maxRecDepth 100000 in
theorem wd_543 : Jvm.Cond.methodLink "PlayedTruthLaw" 208 ⟨"PlayedTruthModel", "act", "(III)I"⟩ ∈ tbl := in_t7 (List.mem_of_getElem? (i := 216) rfl) rfl
set_option maxRecDepth 100000 in
theorem wd_544 : Jvm.Cond.methodLink "PlayedTruthModel" 414 ⟨"PlayedTruthModel", "entersBy", "(II)I"⟩ ∈ tbl := in_t7 (List.mem_of_getElem? (i := 220) rfl) rfl
set_option maxRecDepth 100000 in
theorem wd_545 : Jvm.Cond.methodLink "PlayedTruthModel" 408 ⟨"PlayedTruthModel", "ran", "(I)V"⟩ ∈ tbl := in_t7 (List.mem_of_getElem? (i := 224) rfl) rfl
set_option maxRecDepth 100000 in
theorem wd_546 : Jvm.Cond.methodLink "PlayedTruthModel" 417 ⟨"PlayedTruthModel", "speaksBy", "(II)I"⟩ ∈ tbl := in_t7 (List.mem_of_getElem? (i := 228) rfl) rfl
set_option maxRecDepth 100000 in
theorem wd_547 : Jvm.Cond.methodLink "PlayedTruthModel" 420 ⟨"PlayedTruthModel", "halvesBy", "(II)I"⟩ ∈ tbl := in_t7 (List.mem_of_getElem? (i := 232) rfl) rfl
set_option maxRecDepth 100000 in
theorem wd_548 : Jvm.Cond.methodLink "PlayedTruthModel" 423 ⟨"PlayedTruthModel", "exitsBy", "(II)I"⟩ ∈ tbl := in_t7 (List.mem_of_getElem? (i := 236) rfl) rfl
set_option maxRecDepth 100000 in
theorem wd_549 : Jvm.Cond.methodLink "PlayedTruthLaw" 212 ⟨"PlayedTruthModel", "trace", "(I)I"⟩ ∈ tbl := in_t8 (List.mem_of_getElem? (i := 0) rfl) rfl
set_option maxRecDepth 100000 in
theorem wd_550 : Jvm.Cond.methodLink "PlayedTruthLaw" 216 ⟨"PlayedTruthModel", "many", "(I)I"⟩ ∈ tbl := in_t8 (List.mem_of_getElem? (i := 4) rfl) rfl
set_option maxRecDepth 100000 in
theorem wd_551 : Jvm.Cond.methodLink "PlayedTruthLaw" 220 ⟨"PlayedTruthModel", "keep", "()I"⟩ ∈ tbl := in_t8 (List.mem_of_getElem? (i := 8) rfl) rfl
set_option maxRecDepth 100000 in
theorem wd_552 : Jvm.Cond.methodLink "PlayedTruthLaw" 224 ⟨"PlayedTruthModel", "again", "()I"⟩ ∈ tbl := in_t8 (List.mem_of_getElem? (i := 12) rfl) rfl
set_option maxRecDepth 100000 in
theorem wd_553 : Jvm.Cond.constantLong "PlayedTruthLaw" 58 (4294967295) ∈ tbl := in_t8 (List.mem_of_getElem? (i := 16) rfl) rfl
set_option maxRecDepth 100000 in
theorem wd_554 : Jvm.Cond.fieldLink "java/lang/String" 9 "java/lang/String" "value" "[B" ∈ tbl := in_t8 (List.mem_of_getElem? (i := 17) rfl) rfl
set_option maxRecDepth 100000 in
theorem wd_555 : Jvm.Cond.fieldLink "java/lang/String" 15 "java/lang/String" "coder" "B" ∈ tbl := in_t8 (List.mem_of_getElem? (i := 18) rfl) rfl
set_option maxRecDepth 100000 in
theorem ac_nat : Jvm.Cond.native arraycopyName ∈ tbl := in_t3 (List.mem_of_getElem? (i := 176) rfl) rfl
set_option maxRecDepth 100000 in
theorem ac_st : Jvm.Cond.static arraycopyName ∈ tbl := in_t3 (List.mem_of_getElem? (i := 175) rfl) rfl
set_option maxRecDepth 100000 in
theorem ac_in : Jvm.Cond.initialized "java/lang/System" ∈ tbl := in_t1 (List.mem_of_getElem? (i := 17) rfl) rfl
