/-! the calls, one by one: both sides answer alike, and the relation stays -/
theorem EQ.eq {m : Nat} {x y : Int32} (h : EQ m x y) : x = y := by
  obtain ⟨n, _, e1, e2⟩ := h
  rw [e1, e2]
theorem EQ.of {m n : Nat} (h : n ≤ m) : EQ m (nI n) (nI n) := ⟨n, h, rfl, rfl⟩
theorem u_at {α : Type} (f : Nat → Nat → α) (a k : Nat) (v : α) : am_u f a k v a k = v := by
  rw [u_eq, if_pos rfl, if_pos rfl]
theorem u_nk {α : Type} (f : Nat → Nat → α) (a k : Nat) (v : α) {j : Nat} (h : j ≠ k) : am_u f a k v a j = f a j := by
  rw [u_eq, if_pos rfl, if_neg h]
section OA
variable {d : Nat} {σ : am_I} {ρ : am_R} {g : am_J} {τ : am_T}
theorem o_rate (h : INV σ ρ g τ) {s v : Int32} : AW (d + 2) 114 0 [.ref 0, .int s, .int v, am_jk] [] σ ρ g τ (fun r σ1 ρ1 g1 τ1 => AW (d + 2) 176 0 [.ref 160, .int s, .int v, am_jk] [] σ1 ρ1 g1 τ1 (Same τ r)) := by
  rw [c114 h.sh]
  by_cases q : (0 ≤ s ∧ s ≤ 2) ∧ (0 ≤ v ∧ v ≤ 100)
  · rw [if_pos q, c176 h.sh, if_pos q]
    obtain ⟨⟨q1, q2⟩, q3, q4⟩ := q
    obtain ⟨j, hj, rfl⟩ := i_rng (n := 2) (by decide) q1 q2
    obtain ⟨n, hn, rfl⟩ := i_rng (n := 100) (by decide) q3 q4
    rw [nI_clamp (by omega)]
    obtain ⟨c, hc⟩ := h.cur
    have b := hc.bn
    unfold Bn at b
    refine Same.of ?_ (h.fr ⟨c, hc.bn, hc.sc.cg ?_ ?_ ?_ ?_ ?_ ?_, ⟨?a, ?b, ?c⟩, hc.pr.cg (by omega) ?_ ?_, hc.db.cg (by omega) ?_ ?_, hc.st.cg ?_ ?_, hc.rw.cg ?_ ?_, hc.pa.cg ?_ ?_, hc.tk.cg ?_ ?_, hc.ch.cg ?_ ?_⟩ (h.ld.1.cg ?_ ?_ ?_ ?_) ?_ ?_ ?_ ?_ ?_ ?_ ?_ ?_ ?_ ?_ ?_)
    case a =>
      intro s hs
      by_cases e : s = j
      · subst e
        simp (disch := omega) only [Nat.reduceAdd, Nat.add_zero, u_ne, ur_ne, u_at, u_nk, ur_at]
        exact EQ.of hn
      · have := hc.rh.1 s hs
        simp (disch := omega) only [Nat.reduceAdd, Nat.add_zero, u_ne, ur_ne, u_at, u_nk, ur_at] at this ⊢
        exact this
    case b =>
      have := hc.rh.2.1
      simp (disch := omega) only [Nat.reduceAdd, Nat.add_zero, u_ne, ur_ne, u_at, u_nk, ur_at] at this ⊢
      exact this
    case c =>
      have := hc.rh.2.2
      simp (disch := omega) only [Nat.reduceAdd, Nat.add_zero, u_ne, ur_ne, u_at, u_nk, ur_at] at this ⊢
      exact this
    · rw [u_ne _ _ _ _ (by omega)]
      exact (hc.rh.1 j (by omega)).eq
    all_goals (intros; simp (disch := omega) only [u_ne, ur_ne])
  · rw [if_neg q, c176 h.sh, if_neg q]
    exact Same.of rfl h
theorem o_harvest (h : INV σ ρ g τ) {s v : Int32} : AW (d + 2) 115 0 [.ref 0, .int s, .int v, am_jk] [] σ ρ g τ (fun r σ1 ρ1 g1 τ1 => AW (d + 2) 177 0 [.ref 160, .int s, .int v, am_jk] [] σ1 ρ1 g1 τ1 (Same τ r)) := by
  rw [c115 h.sh]
  by_cases q : (0 ≤ s ∧ s ≤ 11) ∧ (0 ≤ v ∧ v ≤ 200)
  · rw [if_pos q, c177 h.sh, if_pos q]
    obtain ⟨⟨q1, q2⟩, q3, q4⟩ := q
    obtain ⟨j, hj, rfl⟩ := i_rng (n := 11) (by decide) q1 q2
    obtain ⟨n, hn, rfl⟩ := i_rng (n := 200) (by decide) q3 q4
    rw [nI_clamp (by omega)]
    obtain ⟨c, hc⟩ := h.cur
    have b := hc.bn
    unfold Bn at b
    refine Same.of ?_ (h.fr ⟨c, hc.bn, hc.sc.cg ?_ ?_ ?_ ?_ ?_ ?_, ⟨?a, ?b, ?c⟩, hc.pr.cg (by omega) ?_ ?_, hc.db.cg (by omega) ?_ ?_, hc.st.cg ?_ ?_, hc.rw.cg ?_ ?_, hc.pa.cg ?_ ?_, hc.tk.cg ?_ ?_, hc.ch.cg ?_ ?_⟩ (h.ld.1.cg ?_ ?_ ?_ ?_) ?_ ?_ ?_ ?_ ?_ ?_ ?_ ?_ ?_ ?_ ?_)
    case a =>
      have := hc.rh.1
      simp (disch := omega) only [Nat.reduceAdd, Nat.add_zero, u_ne, ur_ne, u_at, u_nk, ur_at] at this ⊢
      exact this
    case b =>
      intro s hs
      by_cases e : s = j
      · subst e
        simp (disch := omega) only [Nat.reduceAdd, Nat.add_zero, u_ne, ur_ne, u_at, u_nk, ur_at]
        exact EQ.of hn
      · have := hc.rh.2.1 s hs
        simp (disch := omega) only [Nat.reduceAdd, Nat.add_zero, u_ne, ur_ne, u_at, u_nk, ur_at] at this ⊢
        exact this
    case c =>
      have := hc.rh.2.2
      simp (disch := omega) only [Nat.reduceAdd, Nat.add_zero, u_ne, ur_ne, u_at, u_nk, ur_at] at this ⊢
      exact this
    · rw [u_ne _ _ _ _ (by omega)]
      exact (hc.rh.2.1 j (by omega)).eq
    all_goals (intros; simp (disch := omega) only [u_ne, ur_ne])
  · rw [if_neg q, c177 h.sh, if_neg q]
    exact Same.of rfl h
theorem o_lag (h : INV σ ρ g τ) {s v : Int32} : AW (d + 2) 131 0 [.ref 0, .int s, .int v, am_jk] [] σ ρ g τ (fun r σ1 ρ1 g1 τ1 => AW (d + 2) 223 0 [.ref 160, .int s, .int v, am_jk] [] σ1 ρ1 g1 τ1 (Same τ r)) := by
  rw [c131 h.sh]
  by_cases q : (0 ≤ s ∧ s ≤ 4) ∧ (0 ≤ v ∧ v ≤ 6)
  · rw [if_pos q, c223 h.sh, if_pos q]
    obtain ⟨⟨q1, q2⟩, q3, q4⟩ := q
    obtain ⟨j, hj, rfl⟩ := i_rng (n := 4) (by decide) q1 q2
    obtain ⟨n, hn, rfl⟩ := i_rng (n := 6) (by decide) q3 q4
    rw [nI_clamp (by omega)]
    obtain ⟨c, hc⟩ := h.cur
    have b := hc.bn
    unfold Bn at b
    refine Same.of ?_ (h.fr ⟨c, hc.bn, hc.sc.cg ?_ ?_ ?_ ?_ ?_ ?_, ⟨?a, ?b, ?c⟩, hc.pr.cg (by omega) ?_ ?_, hc.db.cg (by omega) ?_ ?_, hc.st.cg ?_ ?_, hc.rw.cg ?_ ?_, hc.pa.cg ?_ ?_, hc.tk.cg ?_ ?_, hc.ch.cg ?_ ?_⟩ (h.ld.1.cg ?_ ?_ ?_ ?_) ?_ ?_ ?_ ?_ ?_ ?_ ?_ ?_ ?_ ?_ ?_)
    case a =>
      have := hc.rh.1
      simp (disch := omega) only [Nat.reduceAdd, Nat.add_zero, u_ne, ur_ne, u_at, u_nk, ur_at] at this ⊢
      exact this
    case b =>
      have := hc.rh.2.1
      simp (disch := omega) only [Nat.reduceAdd, Nat.add_zero, u_ne, ur_ne, u_at, u_nk, ur_at] at this ⊢
      exact this
    case c =>
      intro s hs
      by_cases e : s = j
      · subst e
        simp (disch := omega) only [Nat.reduceAdd, Nat.add_zero, u_ne, ur_ne, u_at, u_nk, ur_at]
        exact EQ.of hn
      · have := hc.rh.2.2 s hs
        simp (disch := omega) only [Nat.reduceAdd, Nat.add_zero, u_ne, ur_ne, u_at, u_nk, ur_at] at this ⊢
        exact this
    · rw [u_ne _ _ _ _ (by omega)]
      exact (hc.rh.2.2 j (by omega)).eq
    all_goals (intros; simp (disch := omega) only [u_ne, ur_ne])
  · rw [if_neg q, c223 h.sh, if_neg q]
    exact Same.of rfl h
end OA
