/-! part 36: bounds of what a night is worth -/
def midT (m : Mo) (i : Nat) : Mo := (fun k => if k < i then fadeT m k else mTruth m k, mPretty m, mSet m, mNight m, mScore m, mSeed m)
theorem drawnS_le {s : Sg} {m : Mo} (so : SgOk s) (mo : MoOk s m) : ∀ n, n ≤ sN s → drawnS s m n ≤ 65 * n
  | 0, _ => Nat.le_refl 0
  | n + 1, h => by
    have := drawnS_le so mo n (by omega)
    have := drawsS_le so mo (k := n) (by omega)
    unfold drawnS
    omega
theorem goW_le {s : Sg} {m : Mo} {act : Nat} (so : SgOk s) (mo : MoOk s m) : goW s m act ≤ 453 := by
  have h1 := drawnS_le so (doOk (act := act) mo).1 (sN s) (Nat.le_refl _)
  have hn := so.1
  have hh := houseS_le so (mNight m)
  have h2 : (doM s m act).1 ≤ 63 := by
    unfold doM
    split
    · exact Nat.zero_le _
    split
    · exact Nat.zero_le _
    split
    · exact Nat.zero_le _
    split
    · exact learnsS_le so mo (by omega)
    split
    · show 2 * (houseS s (mNight m) % 4) ≤ 63
      omega
    · exact Nat.zero_le _
  unfold goW
  omega
