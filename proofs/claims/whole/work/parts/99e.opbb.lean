/-! shares of a pot: numbers alone -/
def updN (G : Nat → Nat) (i v : Nat) : Nat → Nat := fun j => if j = i then v else G j
theorem updN_at (G : Nat → Nat) (i v : Nat) : updN G i v i = v := if_pos rfl
theorem updN_ne (G : Nat → Nat) (i v : Nat) {j : Nat} (h : j ≠ i) : updN G i v j = G j := if_neg h
section SHP
variable (W K : Nat → Nat)
/-- what those of a rank want together, below a number -/
def shAll (r : Nat) : Nat → Nat := sumN (fun i => if K i = r then W i else 0)
/-- one round that gives one each, while there is something left -/
def shTp (r : Nat) : Nat → Nat → Nat → (Nat → Nat) → Nat × (Nat → Nat)
  | 0, _, m, G => (m, G)
  | n + 1, i, m, G => if K i = r ∧ 0 < m ∧ G i < W i then shTp r n (i + 1) (m - 1) (updN G i (G i + 1)) else shTp r n (i + 1) m G
def shEl (r : Nat) (G : Nat → Nat) : Nat → Nat → Nat
  | 0, _ => 0
  | n + 1, i => (if K i = r ∧ G i < W i then 1 else 0) + shEl r G n (i + 1)
theorem shEl_cg {r : Nat} {G H : Nat → Nat} : ∀ n i, (∀ j, i ≤ j → j < i + n → G j = H j) → shEl W K r G n i = shEl W K r H n i
  | 0, _, _ => rfl
  | n + 1, i, h => by
    show (if K i = r ∧ G i < W i then 1 else 0) + _ = (if K i = r ∧ H i < W i then 1 else 0) + _
    rw [h i (Nat.le_refl _) (by omega), shEl_cg n (i + 1) (fun j h1 h2 => h j (by omega) (by omega))]
theorem shTp_rem {r : Nat} : ∀ n i m G, (shTp W K r n i m G).1 = m - shEl W K r G n i
  | 0, _, _, _ => rfl
  | n + 1, i, m, G => by
    unfold shTp shEl
    have e : shEl W K r (updN G i (G i + 1)) n (i + 1) = shEl W K r G n (i + 1) := shEl_cg W K n (i + 1) (fun j h1 _ => updN_ne _ _ _ (by omega))
    by_cases q : K i = r ∧ 0 < m ∧ G i < W i
    · rw [if_pos q, if_pos ⟨q.1, q.2.2⟩, shTp_rem n (i + 1), e]
      omega
    · rw [if_neg q, shTp_rem n (i + 1)]
      by_cases z : K i = r ∧ G i < W i
      · have hm : m = 0 := by
          rcases Nat.eq_zero_or_pos m with h | h
          · exact h
          · exact absurd ⟨z.1, h, z.2⟩ q
        rw [if_pos z]
        omega
      · rw [if_neg z]
        omega
/-- outside the places and ranks nothing changes -/
theorem shTp_ne {r : Nat} : ∀ n i m G j, (K j ≠ r ∨ j < i ∨ i + n ≤ j) → (shTp W K r n i m G).2 j = G j
  | 0, _, _, _, _, _ => rfl
  | n + 1, i, m, G, j, h => by
    unfold shTp
    by_cases q : K i = r ∧ 0 < m ∧ G i < W i
    · rw [if_pos q]
      have hji : j ≠ i := fun e => by
        subst e
        rcases h with h | h | h
        · exact h q.1
        · omega
        · omega
      rw [shTp_ne n (i + 1) _ _ j (by rcases h with h | h | h; exact Or.inl h; exact Or.inr (Or.inl (by omega)); exact Or.inr (Or.inr (by omega)))]
      exact updN_ne _ _ _ hji
    · rw [if_neg q]
      exact shTp_ne n (i + 1) _ _ j (by rcases h with h | h | h; exact Or.inl h; exact Or.inr (Or.inl (by omega)); exact Or.inr (Or.inr (by omega)))
theorem shTp_cg {r : Nat} : ∀ n i m (G H : Nat → Nat), (∀ j, i ≤ j → j < i + n → G j = H j) → (shTp W K r n i m G).1 = (shTp W K r n i m H).1 ∧ ∀ j, i ≤ j → j < i + n → (shTp W K r n i m G).2 j = (shTp W K r n i m H).2 j
  | 0, _, _, _, _, _ => ⟨rfl, fun j h1 h2 => absurd h2 (by omega)⟩
  | n + 1, i, m, G, H, h => by
    unfold shTp
    have e := h i (Nat.le_refl _) (by omega)
    by_cases q : K i = r ∧ 0 < m ∧ G i < W i
    · have q2 : K i = r ∧ 0 < m ∧ H i < W i := by rw [← e]; exact q
      rw [if_pos q, if_pos q2]
      have ih := shTp_cg (r := r) n (i + 1) (m - 1) (updN G i (G i + 1)) (updN H i (H i + 1)) (fun j h1 h2 => by rw [updN_ne _ _ _ (by omega), updN_ne _ _ _ (by omega)]; exact h j (by omega) (by omega))
      refine ⟨ih.1, fun j h1 h2 => ?_⟩
      by_cases z : j = i
      · subst z
        rw [shTp_ne W K n (j + 1) _ _ j (Or.inr (Or.inl (by omega))), shTp_ne W K n (j + 1) _ _ j (Or.inr (Or.inl (by omega))), updN_at, updN_at, e]
      · exact ih.2 j (by omega) (by omega)
    · have q2 : ¬ (K i = r ∧ 0 < m ∧ H i < W i) := by rw [← e]; exact q
      rw [if_neg q, if_neg q2]
      have ih := shTp_cg (r := r) n (i + 1) m G H (fun j h1 h2 => h j (by omega) (by omega))
      refine ⟨ih.1, fun j h1 h2 => ?_⟩
      by_cases z : j = i
      · subst z
        rw [shTp_ne W K n (j + 1) _ _ j (Or.inr (Or.inl (by omega))), shTp_ne W K n (j + 1) _ _ j (Or.inr (Or.inl (by omega))), e]
      · exact ih.2 j (by omega) (by omega)
/-- with nothing left nothing changes -/
theorem shTp_0 {r : Nat} : ∀ n i G, shTp W K r n i 0 G = (0, G)
  | 0, _, _ => rfl
  | n + 1, i, G => by
    unfold shTp
    rw [if_neg (fun q => absurd q.2.1 (by decide))]
    exact shTp_0 n (i + 1) G
/-- where none wants more, nothing changes -/
theorem shTp_full {r : Nat} : ∀ n i m G, (∀ j, i ≤ j → j < i + n → K j = r → ¬ G j < W j) → shTp W K r n i m G = (m, G)
  | 0, _, _, _, _ => rfl
  | n + 1, i, m, G, h => by
    unfold shTp
    rw [if_neg (fun q => h i (Nat.le_refl _) (by omega) q.1 q.2.2)]
    exact shTp_full n (i + 1) m G (fun j h1 h2 => h j (by omega) (by omega))
/-- the cuts, and how many were cut -/
theorem sh_bound {r R A : Nat} (hR : R < A) : ∀ n, A * sumN (fun i => if K i = r then W i * R / A else 0) n ≤ shAll W K r n * R ∧ shAll W K r n * R ≤ A * (sumN (fun i => if K i = r then W i * R / A else 0) n + sumN (fun i => if K i = r ∧ W i * R / A < W i then 1 else 0) n)
  | 0 => by
    show A * 0 ≤ 0 * R ∧ 0 * R ≤ A * (0 + 0)
    omega
  | n + 1 => by
    obtain ⟨h1, h2⟩ := sh_bound (r := r) hR n
    show A * (sumN _ n + (if K n = r then W n * R / A else 0)) ≤ (shAll W K r n + (if K n = r then W n else 0)) * R ∧ (shAll W K r n + (if K n = r then W n else 0)) * R ≤ A * ((sumN _ n + (if K n = r then W n * R / A else 0)) + (sumN _ n + (if K n = r ∧ W n * R / A < W n then 1 else 0)))
    by_cases q : K n = r
    · rw [if_pos q, if_pos q, Nat.mul_add, Nat.add_mul]
      have dm := Nat.div_add_mod (W n * R) A
      have ml := Nat.mod_lt (W n * R) (show 0 < A by omega)
      by_cases z : W n * R / A < W n
      · rw [if_pos ⟨q, z⟩]
        refine ⟨by omega, ?_⟩
        simp only [Nat.mul_add] at h2 ⊢
        omega
      · rw [if_neg (fun h => z h.2)]
        have w0 : W n = 0 := by
          rcases Nat.eq_zero_or_pos (W n) with h | h
          · exact h
          · have : W n * R / A < W n := Nat.div_lt_of_lt_mul (by rw [Nat.mul_comm A]; exact Nat.mul_lt_mul_of_pos_left hR h)
            exact absurd this z
        rw [w0, Nat.zero_mul] at dm ml ⊢
        have e0 : 0 / A = 0 := Nat.zero_div A
        rw [e0]
        simp only [Nat.mul_add] at h2 ⊢
        omega
    · rw [if_neg q, if_neg q, if_neg (fun h => q h.1)]
      simp only [Nat.add_zero]
      exact ⟨h1, h2⟩
theorem shEl_sum {r : Nat} {G : Nat → Nat} : ∀ n i, shEl W K r G n i = sumN (fun j => if K (i + j) = r ∧ G (i + j) < W (i + j) then 1 else 0) n
  | 0, _ => rfl
  | n + 1, i => by
    have sh : ∀ (f : Nat → Nat) n, f 0 + sumN (fun j => f (j + 1)) n = sumN f (n + 1) := by
      intro f n
      induction n with
      | zero => show f 0 + 0 = 0 + f 0; omega
      | succ n ih =>
        show f 0 + (sumN (fun j => f (j + 1)) n + f (n + 1)) = sumN f (n + 1) + f (n + 1)
        omega
    have e := sh (fun j => if K (i + j) = r ∧ G (i + j) < W (i + j) then 1 else 0) n
    rw [← e]
    show (if K i = r ∧ G i < W i then 1 else 0) + shEl W K r G n (i + 1) = _
    rw [shEl_sum n (i + 1)]
    show _ = (if K (i + 0) = r ∧ G (i + 0) < W (i + 0) then 1 else 0) + _
    congr 1
    refine sumN_cg n (fun j _ => ?_)
    show (if K (i + 1 + j) = r ∧ G (i + 1 + j) < W (i + 1 + j) then 1 else 0) = (if K (i + (j + 1)) = r ∧ G (i + (j + 1)) < W (i + (j + 1)) then 1 else 0)
    have e3 : i + 1 + j = i + (j + 1) := by omega
    rw [e3]
/-- one round gives it all -/
theorem sh_round {r R n : Nat} (hR : R < shAll W K r n) (G : Nat → Nat) (hG : ∀ i, i < n → K i = r → G i = W i * R / shAll W K r n) : sumN (fun i => if K i = r then W i * R / shAll W K r n else 0) n ≤ R ∧ (shTp W K r n 0 (R - sumN (fun i => if K i = r then W i * R / shAll W K r n else 0) n) G).1 = 0 := by
  obtain ⟨h1, h2⟩ := sh_bound W K (r := r) hR n
  have hA : 0 < shAll W K r n := by omega
  have a1 : sumN (fun i => if K i = r then W i * R / shAll W K r n else 0) n ≤ R := Nat.le_of_mul_le_mul_left h1 hA
  have a2 : R ≤ sumN (fun i => if K i = r then W i * R / shAll W K r n else 0) n + sumN (fun i => if K i = r ∧ W i * R / shAll W K r n < W i then 1 else 0) n := Nat.le_of_mul_le_mul_left h2 hA
  refine ⟨a1, ?_⟩
  rw [shTp_rem, shEl_sum]
  have e : sumN (fun j => if K (0 + j) = r ∧ G (0 + j) < W (0 + j) then 1 else 0) n = sumN (fun i => if K i = r ∧ W i * R / shAll W K r n < W i then 1 else 0) n := by
    refine sumN_cg n (fun j hj => ?_)
    show (if K (0 + j) = r ∧ G (0 + j) < W (0 + j) then 1 else 0) = _
    rw [Nat.zero_add]
    by_cases q : K j = r
    · rw [hG j hj q]
    · rw [if_neg (fun h => q h.1), if_neg (fun h => q h.1)]
  rw [e]
  omega
end SHP
