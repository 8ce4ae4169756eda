/-! a sea is charted: what was read before stays, the new one is what was read -/
section CHART
variable {F F' : FT} {h : Hp} {c a n w : Nat} {g : Nat → Int32} {o : Int32} {U U' : MS}
theorem WF.ff (hW : WF F h w g o) (e : ∀ g' : Nat → Int32, g' 68 = g 68 → ∀ i, i < 6 → F' g' i = F g' i) : WF F' h w g o := by
  obtain ⟨h1, L, v, sd, hG, hS, hF⟩ := hW
  exact ⟨h1, L, v, sd, hG, hS, fun g' hg i hi => (e g' hg i hi).trans (hF g' hg i hi)⟩
theorem n0_ne {q : Nat} (hq : q ≤ 6) : ¬ nI (q + 1) = 0 := fun z => absurd ((nI_eq (b := 0) (by omega) (by omega)).mp z) (by omega)
theorem mRd_ch (hY : chYes U c a U') (hz : mZ U) (hc : c < 6) {q : Nat} (hq : q ≤ c) (hg : g 68 = nI q) (i : Nat) : mRd U' g i = mRd U g i := by
  obtain ⟨y1, y2, y3, y4, y5, y6, y7, y8⟩ := hY
  unfold mRd
  cases q with
  | zero => rw [if_pos (show g 68 = 0 from hg), if_pos (show g 68 = 0 from hg)]
  | succ q =>
    have e0 : ¬ g 68 = 0 := by rw [hg]; exact n0_ne (by omega)
    have e1 : g 68 - 1 = nI q := by rw [hg]; exact nI_subn (a := q) (b := 1)
    have e2 : (nI q).toNatClampNeg = q := nI_clamp (by omega)
    rw [if_neg e0, if_neg e0, e1, e2, y1 9 (by decide) (by decide) (by decide) (by decide), y1 10 (by decide) (by decide) (by decide) (by decide), y4, upd_ne (show q ≠ c by omega)]
    obtain ⟨z, hz1, hz2⟩ := hz q (by omega)
    rw [hz2, nI_clamp (by omega)]
    congr 1
    refine pRA_ext (fun k hk => ?_) (fun _ _ => rfl)
    rw [y3 _ (by omega), if_neg (by omega)]
theorem SR_new {L6 : Nat} {f6 : Nat → Int32} {rr : Int32} (hY : chYes U c a U') (hc : c < 6) (ha : a ≤ 100) (i1 : U.1 9 = mLe) (i2 : U.1 10 = mWo) (hN : ∀ N, (pRA (U.1 4) a mLe N mWo).2 = (N 3 + (cAd f6 N L6).1, rr)) : SR (mRd U') (nI (c + 1)) (some (L6, f6, rr)) := by
  intro g hg i hi
  obtain ⟨y1, y2, y3, y4, y5, y6, y7, y8⟩ := hY
  have e0 : ¬ g 68 = 0 := by rw [hg]; exact n0_ne (by omega)
  have e1 : g 68 - 1 = nI c := by rw [hg]; exact nI_subn (a := c) (b := 1)
  have e2 : (nI c).toNatClampNeg = c := nI_clamp (by omega)
  have e3 : (nI a).toNatClampNeg = a := nI_clamp (by omega)
  unfold mRd
  rw [if_neg e0, e1, e2, y1 9 (by decide) (by decide) (by decide) (by decide), y1 10 (by decide) (by decide) (by decide) (by decide), y4, upd_eq, e3, i1, i2]
  rw [pRA_ext (R' := U.1 4) (N' := mNm g i) (fun k hk => by rw [y3 _ (by omega), if_pos (by omega), Nat.add_sub_cancel_left]) (fun _ _ => rfl), hN]
  rfl
end CHART
