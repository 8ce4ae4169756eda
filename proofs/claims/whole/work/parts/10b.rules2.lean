section ZP2
variable {l : Launch} {G : GT} {M : MT} {d mc ms k n pc pc' : Nat} {Q : Option Value → Hp → Prop} {h : Hp} {lv : LV} {st : List Value} {w u : Nat} {S : WT} {U : MS}
theorem aw_MaldC {i : Int32} (j c : Nat) (hW : MAt h u U) (hd : decode M.2.1 pc = .ok (.iaload, 1)) (hn : pc + 1 = pc') (hk : 1 ≤ j ∧ j ≤ 16 ∧ mkd j = 0) (hi : vp_in i (mlen j)) (hc : i.toNatClampNeg = c)
    (kk : AW l G M d mc ms Q k n h lv (.int (U.1 j c) :: st) pc') : AW l G M d mc ms Q k n h lv (.int i :: .ref (u + j) :: st) pc := by
  subst hc
  exact aw_Mald j hW hd hn hk hi kk
theorem aw_MastC {i x : Int32} (j c : Nat) (hW : MAt h u U) (hd : decode M.2.1 pc = .ok (.iastore, 1)) (hn : pc + 1 = pc') (hk : 1 ≤ j ∧ j ≤ 16 ∧ mkd j = 0) (hi : vp_in i (mlen j)) (hc : i.toNatClampNeg = c)
    (kk : ∀ h', MAt h' u (mup U j c x) → Same u 19 h h' → AW l G M d mc ms Q k n h' lv st pc') : AW l G M d mc ms Q k n h lv (.int x :: .int i :: .ref (u + j) :: st) pc := by
  subst hc
  exact aw_Mast j hW hd hn hk hi kk
end ZP2
