/-! calls and answers of the lean machine, as equations -/
theorem am_en_of {j : Nat} {e : am_ME} {vs : List Value} (he : am_M[j]? = some e) : am_en j vs = am_ar vs ++ List.replicate (e.2.2.1 - (am_ar vs).length) am_jk := by
  unfold am_en
  rw [he]
theorem am_okc_of {j : Nat} {e : am_ME} {vs : List Value} (he : am_M[j]? = some e) (h : (decide ((am_ar vs).length ≤ e.2.2.1) && decide (j < 279) && vs.all am_real) = true) : am_okc j vs = true := by
  unfold am_okc
  rw [he]
  exact h
section AWC
variable {d k pc pc' len x j n b oo : Nat} {ls ls2 st r as : List Value} {σ : am_I} {ρ : am_R} {g : am_J} {τ : am_T} {Q : am_Q} {M e : am_ME} {i : Instr} {v : Int32}
theorem aw_cv (hm : am_M[k]? = some M) (hd : decode M.2.1 pc = .ok (.invokevirtual x, 3)) (hk : am_K M.2.2.2.2 x = (2, j, n)) (he : am_M[j]? = some e) (hst : am_tv n st = some (b, as, r)) (ho : e.2.2.2.2 = oo) (hoo : oo ≤ 13) (hen : am_en j (.ref b :: as) = ls2) (hok : am_okc j (.ref b :: as) = true) (hp : pc + 3 = pc') (ht : τ.1 b = oo) (hs : r.length ≤ 4) :
    AW (d + 1) k pc ls st σ ρ g τ Q = AW d j 0 ls2 [] σ ρ g τ (fun r9 σ ρ g τ => AW (d + 1) k pc' ls (r9.toList ++ r) σ ρ g τ Q) := by
  subst hp
  subst hen
  subst ho
  refine aw_call hm hd rfl ?_ hok
  simp only [am_rc, hk, hst, he]
  rw [if_pos ⟨ht, hoo, Or.inl hs⟩]
theorem aw_cv8 (hm : am_M[k]? = some M) (hd : decode M.2.1 pc = .ok (.invokevirtual x, 3)) (hk : am_K M.2.2.2.2 x = (2, j, n)) (he : am_M[j]? = some e) (hst : am_tv n st = some (b, as, r)) (ho : e.2.2.2.2 = oo) (hoo : oo ≤ 13) (hen : am_en j (.ref b :: as) = ls2) (hok : am_okc j (.ref b :: as) = true) (hp : pc + 3 = pc') (ht : τ.1 b = oo) (hs : am_c8 r = true) :
    AW (d + 1) k pc ls st σ ρ g τ Q = AW d j 0 ls2 [] σ ρ g τ (fun r9 σ ρ g τ => AW (d + 1) k pc' ls (r9.toList ++ r) σ ρ g τ Q) := by
  subst hp
  subst hen
  subst ho
  refine aw_call hm hd rfl ?_ hok
  simp only [am_rc, hk, hst, he]
  rw [if_pos ⟨ht, hoo, Or.inr hs⟩]
theorem aw_cs (hm : am_M[k]? = some M) (hd : decode M.2.1 pc = .ok (.invokestatic x, 3)) (hk : am_K M.2.2.2.2 x = (3, j, n)) (hn : n ≤ st.length) (hst : (st.take n).reverse = as) (hr : st.drop n = r) (hen : am_en j as = ls2) (hok : am_okc j as = true) (hp : pc + 3 = pc') (hs : r.length ≤ 4) :
    AW (d + 1) k pc ls st σ ρ g τ Q = AW d j 0 ls2 [] σ ρ g τ (fun r9 σ ρ g τ => AW (d + 1) k pc' ls (r9.toList ++ r) σ ρ g τ Q) := by
  subst hp
  subst hen
  subst hst
  subst hr
  refine aw_call hm hd rfl ?_ hok
  simp only [am_rc, hk]
  rw [if_pos ⟨hn, hs⟩]
theorem aw_cn (hm : am_M[k]? = some M) (hd : decode M.2.1 pc = .ok (.invokestatic x, 3)) (hk : am_K M.2.2.2.2 x = (4, j, n)) (hn : n ≤ st.length) (hst : (st.take n).reverse = as) (hr : st.drop n = r) (hen : am_en j as = ls2) (hok : am_okc j as = true) (hp : pc + 3 = pc') (hs : r.length ≤ 4) :
    AW (d + 1) k pc ls st σ ρ g τ Q = AW d j 0 ls2 [] σ ρ g τ (fun r9 σ ρ g τ => AW (d + 1) k pc' ls (r9.toList ++ r) σ ρ g τ Q) := by
  subst hp
  subst hen
  subst hst
  subst hr
  refine aw_call hm hd rfl ?_ hok
  simp only [am_rc, hk]
  rw [if_pos ⟨hn, hs⟩]
theorem aw_ci (hm : am_M[k]? = some M) (hd : decode M.2.1 pc = .ok (.invokespecial x, 3)) (hk : am_K M.2.2.2.2 x = (5, j, n)) (hst : am_tv n st = some (b, as, r)) (hen : am_en j (.ref b :: as) = ls2) (hok : am_okc j (.ref b :: as) = true) (hp : pc + 3 = pc') (hs : r.length ≤ 4) :
    AW (d + 1) k pc ls st σ ρ g τ Q = AW d j 0 ls2 [] σ ρ g τ (fun r9 σ ρ g τ => AW (d + 1) k pc' ls (r9.toList ++ r) σ ρ g τ Q) := by
  subst hp
  subst hen
  refine aw_call hm hd rfl ?_ hok
  simp only [am_rc, hk, hst]
  rw [if_pos hs]
theorem aw_ri (hm : am_M[k]? = some M) (hd : decode M.2.1 pc = .ok (.ireturn, 1)) (hr : M.2.2.2.1 = some .int) : AW d k pc ls [.int v] σ ρ g τ Q = Q (some (.int v)) σ ρ g τ :=
  aw_ret hm hd rfl (by simp only [am_rc, hr, am_rtz, if_true])
theorem aw_rz (hm : am_M[k]? = some M) (hd : decode M.2.1 pc = .ok (.ireturn, 1)) (hr : M.2.2.2.1 = some .boolean) (hv : am_b01 v = true) : AW d k pc ls [.int v] σ ρ g τ Q = Q (some (.int v)) σ ρ g τ :=
  aw_ret hm hd rfl (by simp only [am_rc, hr, am_rtz, hv, if_true])
theorem aw_rb (hm : am_M[k]? = some M) (hd : decode M.2.1 pc = .ok (.ireturn, 1)) (hr : M.2.2.2.1 = some .byte) : AW d k pc ls [.int 0] σ ρ g τ Q = Q (some (.int 0)) σ ρ g τ :=
  aw_ret hm hd rfl (by simp only [am_rc, hr, am_rtz, decide_true, if_true])
theorem aw_rch (hm : am_M[k]? = some M) (hd : decode M.2.1 pc = .ok (.ireturn, 1)) (hr : M.2.2.2.1 = some .char) (hv : decide (narrow .char (.int v) = .int v) = true) : AW d k pc ls [.int v] σ ρ g τ Q = Q (some (.int v)) σ ρ g τ :=
  aw_ret hm hd rfl (by simp only [am_rc, hr, am_rtz, hv, if_true])
theorem aw_rl {v : Int64} (hm : am_M[k]? = some M) (hd : decode M.2.1 pc = .ok (.lreturn, 1)) (hr : M.2.2.2.1 = some .long) : AW d k pc ls [.long v] σ ρ g τ Q = Q (some (.long v)) σ ρ g τ :=
  aw_ret hm hd rfl (by simp only [am_rc, hr, if_true])
theorem aw_ra (hm : am_M[k]? = some M) (hd : decode M.2.1 pc = .ok (.areturn, 1)) (hr : am_rtr M.2.2.2.1 = true) : AW d k pc ls [.ref b] σ ρ g τ Q = Q (some (.ref b)) σ ρ g τ :=
  aw_ret hm hd rfl (by simp only [am_rc, hr, if_true])
theorem aw_rv (hm : am_M[k]? = some M) (hd : decode M.2.1 pc = .ok (.return_, 1)) (hr : M.2.2.2.1 = none) : AW d k pc ls [] σ ρ g τ Q = Q none σ ρ g τ :=
  aw_ret hm hd rfl (by simp only [am_rc, hr, if_true])
end AWC
