/-! rows of the lean machine, an instruction each, as equations -/
section AWL
variable {d k pc pc' len : Nat} {ls ls' st st' : List Value} {σ : am_I} {ρ : am_R} {g : am_J} {τ : am_T} {Q : am_Q} {M : am_ME} {i : Instr}
theorem aw_lc (hm : am_M[k]? = some M) (hd : decode M.2.1 pc = .ok (i, len)) (hl : am_ln i len = true) (hr : am_rc M i st τ = none) (h : am_lc i pc ls st = some (pc', ls', st')) : AW d k pc ls st σ ρ g τ Q = AW d k pc' ls' st' σ ρ g τ Q :=
  aw_nx (x := (pc', ls', st', σ, ρ, g, τ)) hm hd hl hr (by unfold am_nx; rw [h])
theorem aw_br {P : Prop} [Decidable P] {t u : Nat} (hm : am_M[k]? = some M) (hd : decode M.2.1 pc = .ok (i, len)) (hl : am_ln i len = true) (hr : am_rc M i st τ = none) (h : am_lc i pc ls st = some ((if decide P = true then t else u), ls', st')) : AW d k pc ls st σ ρ g τ Q = if P then AW d k t ls' st' σ ρ g τ Q else AW d k u ls' st' σ ρ g τ Q := by
  rw [aw_lc hm hd hl hr h]
  by_cases hp : P
  · rw [if_pos hp, if_pos (decide_eq_true hp)]
  · rw [if_neg hp, if_neg (fun q => hp (of_decide_eq_true q))]
theorem aw_hp {y : am_H5} (hm : am_M[k]? = some M) (hd : decode M.2.1 pc = .ok (i, len)) (hl : am_ln i len = true) (hr : am_rc M i st τ = none) (h0 : am_lc i pc ls st = none) (h : am_hp M i st σ ρ g τ = some y) (hp : pc + len = pc') : AW d k pc ls st σ ρ g τ Q = AW d k pc' ls y.1 y.2.1 y.2.2.1 y.2.2.2.1 y.2.2.2.2 Q := by
  subst hp
  exact aw_nx (x := (pc + len, ls, y)) hm hd hl hr (by unfold am_nx; rw [h0, h])
variable {x a b ci kk n : Nat} {v w j : Int32}
theorem aw_div (hm : am_M[k]? = some M) (hd : decode M.2.1 pc = .ok (.idiv, 1)) (h0 : ¬ w = 0) (hp : pc + 1 = pc') : AW d k pc ls (.int w :: .int v :: st) σ ρ g τ Q = AW d k pc' ls (.int (v / w) :: st) σ ρ g τ Q := by
  subst hp
  exact aw_lc hm hd rfl rfl (if_neg h0)
theorem aw_rem (hm : am_M[k]? = some M) (hd : decode M.2.1 pc = .ok (.irem, 1)) (h0 : ¬ w = 0) (hp : pc + 1 = pc') : AW d k pc ls (.int w :: .int v :: st) σ ρ g τ Q = AW d k pc' ls (.int (v - v / w * w) :: st) σ ρ g τ Q := by
  subst hp
  exact aw_lc hm hd rfl rfl (if_neg h0)
theorem aw_ldiv {v w : Int64} (hm : am_M[k]? = some M) (hd : decode M.2.1 pc = .ok (.ldiv, 1)) (h0 : ¬ w = 0) (hp : pc + 1 = pc') : AW d k pc ls (.long w :: .long v :: st) σ ρ g τ Q = AW d k pc' ls (.long (v / w) :: st) σ ρ g τ Q := by
  subst hp
  exact aw_lc hm hd rfl rfl (if_neg h0)
theorem aw_gi (hm : am_M[k]? = some M) (hd : decode M.2.1 pc = .ok (.getfield x, 3)) (hk : am_K M.2.2.2.2 x = (1, ci, kk)) (hR : am_iR ci kk = false) (hp : pc + 3 = pc') (ht : τ.1 a = ci) : AW d k pc ls (.ref a :: st) σ ρ g τ Q = AW d k pc' ls (.int (σ a kk) :: st) σ ρ g τ Q :=
  aw_hp (y := (.int (σ a kk) :: st, σ, ρ, g, τ)) hm hd rfl rfl rfl (by simp only [am_hp, hk, ht, if_true, hR, Bool.false_eq_true, if_false]) hp
theorem aw_gr (hm : am_M[k]? = some M) (hd : decode M.2.1 pc = .ok (.getfield x, 3)) (hk : am_K M.2.2.2.2 x = (1, ci, kk)) (hR : am_iR ci kk = true) (hp : pc + 3 = pc') (ht : τ.1 a = ci) : AW d k pc ls (.ref a :: st) σ ρ g τ Q = AW d k pc' ls (va_rf (ρ a kk) :: st) σ ρ g τ Q :=
  aw_hp (y := (va_rf (ρ a kk) :: st, σ, ρ, g, τ)) hm hd rfl rfl rfl (by simp only [am_hp, hk, ht, if_true, hR]) hp
theorem aw_pi (hm : am_M[k]? = some M) (hd : decode M.2.1 pc = .ok (.putfield x, 3)) (hk : am_K M.2.2.2.2 x = (1, ci, kk)) (hR : am_tyF ci kk = .int) (hf : am_fin ci kk = false ∨ (M.1.name = "<init>" ∧ M.2.2.2.2 = ci)) (hp : pc + 3 = pc') (ht : τ.1 a = ci) : AW d k pc ls (.int v :: .ref a :: st) σ ρ g τ Q = AW d k pc' ls st (am_u σ a kk v) ρ g τ Q :=
  aw_hp (y := (st, am_u σ a kk v, ρ, g, τ)) hm hd rfl rfl rfl (by simp only [am_hp, hk]; rw [if_pos ⟨ht, by rw [am_iR, hR]; rfl, Or.inl hR, hf⟩]) hp
theorem aw_pz (hm : am_M[k]? = some M) (hd : decode M.2.1 pc = .ok (.putfield x, 3)) (hk : am_K M.2.2.2.2 x = (1, ci, kk)) (hR : am_tyF ci kk = .boolean) (hf : am_fin ci kk = false ∨ (M.1.name = "<init>" ∧ M.2.2.2.2 = ci)) (hp : pc + 3 = pc') (ht : τ.1 a = ci) (hv : am_b01 v = true) : AW d k pc ls (.int v :: .ref a :: st) σ ρ g τ Q = AW d k pc' ls st (am_u σ a kk v) ρ g τ Q :=
  aw_hp (y := (st, am_u σ a kk v, ρ, g, τ)) hm hd rfl rfl rfl (by simp only [am_hp, hk]; rw [if_pos ⟨ht, by rw [am_iR, hR]; rfl, Or.inr ⟨hR, hv⟩, hf⟩]) hp
theorem aw_pr (hm : am_M[k]? = some M) (hd : decode M.2.1 pc = .ok (.putfield x, 3)) (hk : am_K M.2.2.2.2 x = (1, ci, kk)) (hR : am_iR ci kk = true) (hf : am_fin ci kk = false ∨ (M.1.name = "<init>" ∧ M.2.2.2.2 = ci)) (hp : pc + 3 = pc') (ht : τ.1 a = ci) : AW d k pc ls (.ref b :: .ref a :: st) σ ρ g τ Q = AW d k pc' ls st σ (am_u ρ a kk (some b)) g τ Q :=
  aw_hp (y := (st, σ, am_u ρ a kk (some b), g, τ)) hm hd rfl rfl rfl (by simp only [am_hp, hk]; rw [if_pos ⟨ht, hR, hf⟩]) hp
theorem aw_pn (hm : am_M[k]? = some M) (hd : decode M.2.1 pc = .ok (.putfield x, 3)) (hk : am_K M.2.2.2.2 x = (1, ci, kk)) (hR : am_iR ci kk = true) (hf : am_fin ci kk = false ∨ (M.1.name = "<init>" ∧ M.2.2.2.2 = ci)) (hp : pc + 3 = pc') (ht : τ.1 a = ci) : AW d k pc ls (.null :: .ref a :: st) σ ρ g τ Q = AW d k pc' ls st σ (am_u ρ a kk none) g τ Q :=
  aw_hp (y := (st, σ, am_u ρ a kk none, g, τ)) hm hd rfl rfl rfl (by simp only [am_hp, hk]; rw [if_pos ⟨ht, hR, hf⟩]) hp
theorem aw_sv (hm : am_M[k]? = some M) (hd : decode M.2.1 pc = .ok (.getfield x, 3)) (hk : am_K M.2.2.2.2 x = (16, 0, 0)) (hp : pc + 3 = pc') (ht : τ.1 a = 13) : AW d k pc ls (.ref a :: st) σ ρ g τ Q = AW d k pc' ls (.ref (a + 38) :: st) σ ρ g τ Q :=
  aw_hp (y := (.ref (a + 38) :: st, σ, ρ, g, τ)) hm hd rfl rfl rfl (by simp only [am_hp, hk, ht, if_true]) hp
theorem aw_sc (hm : am_M[k]? = some M) (hd : decode M.2.1 pc = .ok (.getfield x, 3)) (hk : am_K M.2.2.2.2 x = (16, 1, 0)) (hp : pc + 3 = pc') (ht : τ.1 a = 13) : AW d k pc ls (.ref a :: st) σ ρ g τ Q = AW d k pc' ls (.int 0 :: st) σ ρ g τ Q :=
  aw_hp (y := (.int 0 :: st, σ, ρ, g, τ)) hm hd rfl rfl rfl (by simp only [am_hp, hk, ht, if_true]) hp
theorem aw_ial (hm : am_M[k]? = some M) (hd : decode M.2.1 pc = .ok (.iaload, 1)) (hp : pc + 1 = pc') (ht : τ.1 a = 15) (hj : am_inb j (τ.2.1 a) = true) : AW d k pc ls (.int j :: .ref a :: st) σ ρ g τ Q = AW d k pc' ls (.int (σ a j.toNatClampNeg) :: st) σ ρ g τ Q :=
  aw_hp (y := (.int (σ a j.toNatClampNeg) :: st, σ, ρ, g, τ)) hm hd rfl rfl rfl (by simp only [am_hp]; rw [if_pos ⟨ht, hj⟩]) hp
theorem aw_bal (hm : am_M[k]? = some M) (hd : decode M.2.1 pc = .ok (.baload, 1)) (hp : pc + 1 = pc') (ht : τ.1 a = 14 ∨ τ.1 a = 17) (hj : am_inb j (τ.2.1 a) = true) : AW d k pc ls (.int j :: .ref a :: st) σ ρ g τ Q = AW d k pc' ls (.int (σ a j.toNatClampNeg) :: st) σ ρ g τ Q :=
  aw_hp (y := (.int (σ a j.toNatClampNeg) :: st, σ, ρ, g, τ)) hm hd rfl rfl rfl (by simp only [am_hp]; rw [if_pos ⟨ht, hj⟩]) hp
theorem aw_lal (hm : am_M[k]? = some M) (hd : decode M.2.1 pc = .ok (.laload, 1)) (hp : pc + 1 = pc') (ht : τ.1 a = 16) (hj : am_inb j (τ.2.1 a) = true) : AW d k pc ls (.int j :: .ref a :: st) σ ρ g τ Q = AW d k pc' ls (.long (g a j.toNatClampNeg) :: st) σ ρ g τ Q :=
  aw_hp (y := (.long (g a j.toNatClampNeg) :: st, σ, ρ, g, τ)) hm hd rfl rfl rfl (by simp only [am_hp]; rw [if_pos ⟨ht, hj⟩]) hp
theorem aw_aal (hm : am_M[k]? = some M) (hd : decode M.2.1 pc = .ok (.aaload, 1)) (hp : pc + 1 = pc') (ht : 18 ≤ τ.1 a ∧ τ.1 a ≤ 22) (hj : am_inb j (τ.2.1 a) = true) : AW d k pc ls (.int j :: .ref a :: st) σ ρ g τ Q = AW d k pc' ls (va_rf (ρ a j.toNatClampNeg) :: st) σ ρ g τ Q :=
  aw_hp (y := (va_rf (ρ a j.toNatClampNeg) :: st, σ, ρ, g, τ)) hm hd rfl rfl rfl (by simp only [am_hp]; rw [if_pos ⟨ht.1, ht.2, hj⟩]) hp
theorem aw_ias (hm : am_M[k]? = some M) (hd : decode M.2.1 pc = .ok (.iastore, 1)) (hp : pc + 1 = pc') (ht : τ.1 a = 15) (ha : a < am_BG) (hj : am_inb j (τ.2.1 a) = true) : AW d k pc ls (.int v :: .int j :: .ref a :: st) σ ρ g τ Q = AW d k pc' ls st (am_u σ a j.toNatClampNeg v) ρ g τ Q :=
  aw_hp (y := (st, am_u σ a j.toNatClampNeg v, ρ, g, τ)) hm hd rfl rfl rfl (by simp only [am_hp]; rw [if_pos ⟨ht, ha, hj⟩]) hp
theorem aw_bas (hm : am_M[k]? = some M) (hd : decode M.2.1 pc = .ok (.bastore, 1)) (hp : pc + 1 = pc') (ht : τ.1 a = 14) (ha : a < am_BG) (hj : am_inb j (τ.2.1 a) = true) : AW d k pc ls (.int v :: .int j :: .ref a :: st) σ ρ g τ Q = AW d k pc' ls st (am_u σ a j.toNatClampNeg v.toInt8.toInt32) ρ g τ Q :=
  aw_hp (y := (st, am_u σ a j.toNatClampNeg v.toInt8.toInt32, ρ, g, τ)) hm hd rfl rfl rfl (by simp only [am_hp]; rw [if_pos ⟨hj, ha⟩, if_pos ht]) hp
theorem aw_zas (hm : am_M[k]? = some M) (hd : decode M.2.1 pc = .ok (.bastore, 1)) (hp : pc + 1 = pc') (ht : τ.1 a = 17) (ha : a < am_BG) (hj : am_inb j (τ.2.1 a) = true) (hv : am_b01 v = true) : AW d k pc ls (.int v :: .int j :: .ref a :: st) σ ρ g τ Q = AW d k pc' ls st (am_u σ a j.toNatClampNeg v) ρ g τ Q :=
  aw_hp (y := (st, am_u σ a j.toNatClampNeg v, ρ, g, τ)) hm hd rfl rfl rfl (by simp only [am_hp]; rw [if_pos ⟨hj, ha⟩, if_neg (by omega), if_pos ⟨ht, hv⟩]) hp
theorem aw_las {v : Int64} (hm : am_M[k]? = some M) (hd : decode M.2.1 pc = .ok (.lastore, 1)) (hp : pc + 1 = pc') (ht : τ.1 a = 16) (hj : am_inb j (τ.2.1 a) = true) : AW d k pc ls (.long v :: .int j :: .ref a :: st) σ ρ g τ Q = AW d k pc' ls st σ ρ (am_u g a j.toNatClampNeg v) τ Q :=
  aw_hp (y := (st, σ, ρ, am_u g a j.toNatClampNeg v, τ)) hm hd rfl rfl rfl (by simp only [am_hp]; rw [if_pos ⟨ht, hj⟩]) hp
theorem aw_aas (hm : am_M[k]? = some M) (hd : decode M.2.1 pc = .ok (.aastore, 1)) (hp : pc + 1 = pc') (ht : 18 ≤ τ.1 a ∧ τ.1 a ≤ 22) (hj : am_inb j (τ.2.1 a) = true) (hb : τ.1 b = am_elK (τ.1 a)) (hb2 : b < am_BG) : AW d k pc ls (.ref b :: .int j :: .ref a :: st) σ ρ g τ Q = AW d k pc' ls st σ (am_u ρ a j.toNatClampNeg (some b)) g τ Q :=
  aw_hp (y := (st, σ, am_u ρ a j.toNatClampNeg (some b), g, τ)) hm hd rfl rfl rfl (by simp only [am_hp]; rw [if_pos ⟨ht.1, ht.2, hj, hb, hb2⟩]) hp
theorem aw_len (hm : am_M[k]? = some M) (hd : decode M.2.1 pc = .ok (.arraylength, 1)) (hp : pc + 1 = pc') (ht : 14 ≤ τ.1 a ∧ τ.1 a ≤ 22) : AW d k pc ls (.ref a :: st) σ ρ g τ Q = AW d k pc' ls (.int (nI (τ.2.1 a)) :: st) σ ρ g τ Q :=
  aw_hp (y := (.int (Int32.ofNat (τ.2.1 a)) :: st, σ, ρ, g, τ)) hm hd rfl rfl rfl (by simp only [am_hp]; rw [if_pos ht]) hp
theorem aw_nwa {ty : ArrayType} (hm : am_M[k]? = some M) (hd : decode M.2.1 pc = .ok (.newarray ty, 2)) (hp : pc + 2 = pc') (hk : am_atK ty = kk) (h99 : kk ≠ 99) (hj : ¬ j < 0 ∧ j.toNatClampNeg ≤ 10000) : AW d k pc ls (.int j :: st) σ ρ g τ Q = AW d k pc' ls (.ref τ.2.2.1 :: st) (am_new kk j.toNatClampNeg σ ρ g τ).1 (am_new kk j.toNatClampNeg σ ρ g τ).2.1 (am_new kk j.toNatClampNeg σ ρ g τ).2.2.1 (am_new kk j.toNatClampNeg σ ρ g τ).2.2.2 Q := by
  subst hk
  exact aw_hp (y := (.ref τ.2.2.1 :: st, am_new (am_atK ty) j.toNatClampNeg σ ρ g τ)) hm hd rfl rfl rfl (by simp only [am_hp]; rw [if_pos ⟨hj.1, hj.2, h99⟩]) hp
theorem aw_ana (hm : am_M[k]? = some M) (hd : decode M.2.1 pc = .ok (.anewarray x, 3)) (hk : am_K M.2.2.2.2 x = (7, ci, n)) (hp : pc + 3 = pc') (hk2 : am_arK ci = kk) (h99 : kk ≠ 99) (hj : ¬ j < 0 ∧ j.toNatClampNeg ≤ 10000) : AW d k pc ls (.int j :: st) σ ρ g τ Q = AW d k pc' ls (.ref τ.2.2.1 :: st) (am_new kk j.toNatClampNeg σ ρ g τ).1 (am_new kk j.toNatClampNeg σ ρ g τ).2.1 (am_new kk j.toNatClampNeg σ ρ g τ).2.2.1 (am_new kk j.toNatClampNeg σ ρ g τ).2.2.2 Q := by
  subst hk2
  exact aw_hp (y := (.ref τ.2.2.1 :: st, am_new (am_arK ci) j.toNatClampNeg σ ρ g τ)) hm hd rfl rfl rfl (by simp only [am_hp, hk]; rw [if_pos ⟨hj.1, hj.2, h99⟩]) hp
theorem aw_anA (hm : am_M[k]? = some M) (hd : decode M.2.1 pc = .ok (.anewarray x, 3)) (hk : am_K M.2.2.2.2 x = (8, 22, 0)) (hp : pc + 3 = pc') (hj : ¬ j < 0 ∧ j.toNatClampNeg ≤ 10000) : AW d k pc ls (.int j :: st) σ ρ g τ Q = AW d k pc' ls (.ref τ.2.2.1 :: st) (am_new 22 j.toNatClampNeg σ ρ g τ).1 (am_new 22 j.toNatClampNeg σ ρ g τ).2.1 (am_new 22 j.toNatClampNeg σ ρ g τ).2.2.1 (am_new 22 j.toNatClampNeg σ ρ g τ).2.2.2 Q :=
  aw_hp (y := (.ref τ.2.2.1 :: st, am_new 22 j.toNatClampNeg σ ρ g τ)) hm hd rfl rfl rfl (by simp only [am_hp, hk]; rw [if_pos hj]) hp
theorem aw_mna (hm : am_M[k]? = some M) (hd : decode M.2.1 pc = .ok (.multianewarray x 2, 4)) (hk : am_K M.2.2.2.2 x = (9, 22, 0)) (hp : pc + 4 = pc') (hj : ¬ w < 0 ∧ ¬ v < 0 ∧ w.toNatClampNeg ≤ 1000 ∧ v.toNatClampNeg ≤ 1000) : AW d k pc ls (.int v :: .int w :: st) σ ρ g τ Q = AW d k pc' ls (.ref τ.2.2.1 :: st) (am_mna w.toNatClampNeg v.toNatClampNeg σ ρ g τ).1 (am_mna w.toNatClampNeg v.toNatClampNeg σ ρ g τ).2.1 (am_mna w.toNatClampNeg v.toNatClampNeg σ ρ g τ).2.2.1 (am_mna w.toNatClampNeg v.toNatClampNeg σ ρ g τ).2.2.2 Q :=
  aw_hp (y := (.ref τ.2.2.1 :: st, am_mna w.toNatClampNeg v.toNatClampNeg σ ρ g τ)) hm hd rfl rfl rfl (by simp only [am_hp, hk]; rw [if_pos hj]) hp
theorem aw_new (hm : am_M[k]? = some M) (hd : decode M.2.1 pc = .ok (.new x, 3)) (hk : am_K M.2.2.2.2 x = (7, ci, n)) (hp : pc + 3 = pc') (hc : ci < 13) : AW d k pc ls st σ ρ g τ Q = AW d k pc' ls (.ref τ.2.2.1 :: st) (am_new ci n σ ρ g τ).1 (am_new ci n σ ρ g τ).2.1 (am_new ci n σ ρ g τ).2.2.1 (am_new ci n σ ρ g τ).2.2.2 Q :=
  aw_hp (y := (.ref τ.2.2.1 :: st, am_new ci n σ ρ g τ)) hm hd rfl rfl rfl (by simp only [am_hp, hk]; rw [if_pos hc]) hp
theorem aw_oin (hm : am_M[k]? = some M) (hd : decode M.2.1 pc = .ok (.invokespecial x, 3)) (hk : am_K M.2.2.2.2 x = (6, 0, 0)) (hp : pc + 3 = pc') (hs : st.length ≤ 4) : AW d k pc ls (.ref a :: st) σ ρ g τ Q = AW d k pc' ls st σ ρ g τ Q :=
  aw_hp (y := (st, σ, ρ, g, τ)) hm hd rfl (by simp only [am_rc, hk]) rfl (by simp only [am_hp, hk]; rw [if_pos hs]) hp
theorem aw_min (hm : am_M[k]? = some M) (hd : decode M.2.1 pc = .ok (.invokestatic x, 3)) (hk : am_K M.2.2.2.2 x = (17, 0, 0)) (hp : pc + 3 = pc') (hs : st.length ≤ 4) : AW d k pc ls (.int w :: .int v :: st) σ ρ g τ Q = AW d k pc' ls (.int (if w < v then w else v) :: st) σ ρ g τ Q :=
  aw_hp (y := (.int (if w < v then w else v) :: st, σ, ρ, g, τ)) hm hd rfl (by simp only [am_rc, hk]) rfl (by simp only [am_hp, hk]; rw [if_pos hs]) hp
theorem aw_max (hm : am_M[k]? = some M) (hd : decode M.2.1 pc = .ok (.invokestatic x, 3)) (hk : am_K M.2.2.2.2 x = (17, 1, 0)) (hp : pc + 3 = pc') (hs : st.length ≤ 4) : AW d k pc ls (.int w :: .int v :: st) σ ρ g τ Q = AW d k pc' ls (.int (if v < w then w else v) :: st) σ ρ g τ Q :=
  aw_hp (y := (.int (if v < w then w else v) :: st, σ, ρ, g, τ)) hm hd rfl (by simp only [am_rc, hk]) rfl (by simp only [am_hp, hk]; rw [if_pos hs]) hp
theorem aw_abs (hm : am_M[k]? = some M) (hd : decode M.2.1 pc = .ok (.invokestatic x, 3)) (hk : am_K M.2.2.2.2 x = (17, 2, 0)) (hp : pc + 3 = pc') (hs : st.length ≤ 4) : AW d k pc ls (.int v :: st) σ ρ g τ Q = AW d k pc' ls (.int (if 0 ≤ v then v else 0 - v) :: st) σ ρ g τ Q :=
  aw_hp (y := (.int (if 0 ≤ v then v else 0 - v) :: st, σ, ρ, g, τ)) hm hd rfl (by simp only [am_rc, hk]) rfl (by simp only [am_hp, hk]; rw [if_pos hs]) hp
theorem aw_cpy {sp dp nn : Int32} (hm : am_M[k]? = some M) (hd : decode M.2.1 pc = .ok (.invokestatic x, 3)) (hk : am_K M.2.2.2.2 x = (15, 0, 0)) (hp : pc + 3 = pc') (hs : st.length ≤ 4) (h : τ.1 a = 15 ∧ τ.1 b = 15 ∧ a < am_BG ∧ b < am_BG ∧ a ≠ b ∧ ¬ nn < 0 ∧ ¬ sp < 0 ∧ ¬ dp < 0 ∧ sp.toNatClampNeg + nn.toNatClampNeg ≤ τ.2.1 a ∧ dp.toNatClampNeg + nn.toNatClampNeg ≤ τ.2.1 b) : AW d k pc ls (.int nn :: .int dp :: .ref b :: .int sp :: .ref a :: st) σ ρ g τ Q = AW d k pc' ls st (am_ur σ b (va_cpy (σ a) (σ b) sp.toNatClampNeg dp.toNatClampNeg nn.toNatClampNeg)) ρ g τ Q :=
  aw_hp (y := (st, am_ur σ b (va_cpy (σ a) (σ b) sp.toNatClampNeg dp.toNatClampNeg nn.toNatClampNeg), ρ, g, τ)) hm hd rfl (by simp only [am_rc, hk]) rfl (by simp only [am_hp, hk]; rw [if_pos ⟨hs, h⟩]) hp
theorem aw_ldi (hm : am_M[k]? = some M) (hd : decode M.2.1 pc = .ok (.ldc x, 2)) (hk : am_K M.2.2.2.2 x = (10, n, 0)) (hp : pc + 2 = pc') : AW d k pc ls st σ ρ g τ Q = AW d k pc' ls (.int (nI n) :: st) σ ρ g τ Q :=
  aw_hp (y := (.int (Int32.ofNat n) :: st, σ, ρ, g, τ)) hm hd rfl rfl rfl (by simp only [am_hp, hk]) hp
theorem aw_lds (hm : am_M[k]? = some M) (hd : decode M.2.1 pc = .ok (.ldc x, 2)) (hk : am_K M.2.2.2.2 x = (12, n, 0)) (hp : pc + 2 = pc') : AW d k pc ls st σ ρ g τ Q = AW d k pc' ls (.ref (am_BG + n) :: st) σ ρ g τ Q :=
  aw_hp (y := (.ref (am_BG + n) :: st, σ, ρ, g, τ)) hm hd rfl rfl rfl (by simp only [am_hp, hk]) hp
theorem aw_lwi (hm : am_M[k]? = some M) (hd : decode M.2.1 pc = .ok (.ldc_w x, 3)) (hk : am_K M.2.2.2.2 x = (10, n, 0)) (hp : pc + 3 = pc') : AW d k pc ls st σ ρ g τ Q = AW d k pc' ls (.int (nI n) :: st) σ ρ g τ Q :=
  aw_hp (y := (.int (Int32.ofNat n) :: st, σ, ρ, g, τ)) hm hd rfl rfl rfl (by simp only [am_hp, hk]) hp
theorem aw_lws (hm : am_M[k]? = some M) (hd : decode M.2.1 pc = .ok (.ldc_w x, 3)) (hk : am_K M.2.2.2.2 x = (12, n, 0)) (hp : pc + 3 = pc') : AW d k pc ls st σ ρ g τ Q = AW d k pc' ls (.ref (am_BG + n) :: st) σ ρ g τ Q :=
  aw_hp (y := (.ref (am_BG + n) :: st, σ, ρ, g, τ)) hm hd rfl rfl rfl (by simp only [am_hp, hk]) hp
theorem aw_ldl (hm : am_M[k]? = some M) (hd : decode M.2.1 pc = .ok (.ldc2_w x, 3)) (hk : am_K M.2.2.2.2 x = (11, n, 0)) (hp : pc + 3 = pc') : AW d k pc ls st σ ρ g τ Q = AW d k pc' ls (.long (Int64.ofNat n) :: st) σ ρ g τ Q :=
  aw_hp (y := (.long (Int64.ofNat n) :: st, σ, ρ, g, τ)) hm hd rfl rfl rfl (by simp only [am_hp, hk]) hp
theorem aw_gsc (hm : am_M[k]? = some M) (hd : decode M.2.1 pc = .ok (.getstatic x, 3)) (hk : am_K M.2.2.2.2 x = (13, 0, 0)) (hp : pc + 3 = pc') : AW d k pc ls st σ ρ g τ Q = AW d k pc' ls (.int 1 :: st) σ ρ g τ Q :=
  aw_hp (y := (.int 1 :: st, σ, ρ, g, τ)) hm hd rfl rfl rfl (by simp only [am_hp, hk]) hp
theorem aw_gsf (hm : am_M[k]? = some M) (hd : decode M.2.1 pc = .ok (.getstatic x, 3)) (hk : am_K M.2.2.2.2 x = (13, 1, 0)) (hp : pc + 3 = pc') : AW d k pc ls st σ ρ g τ Q = AW d k pc' ls (.float 1 :: st) σ ρ g τ Q :=
  aw_hp (y := (.float 1 :: st, σ, ρ, g, τ)) hm hd rfl rfl rfl (by simp only [am_hp, hk]) hp
theorem aw_gsa (hm : am_M[k]? = some M) (hd : decode M.2.1 pc = .ok (.getstatic x, 3)) (hk : am_K M.2.2.2.2 x = (14, 0, 0)) (hp : pc + 3 = pc') : AW d k pc ls st σ ρ g τ Q = AW d k pc' ls (.ref am_BG :: st) σ ρ g τ Q :=
  aw_hp (y := (.ref am_BG :: st, σ, ρ, g, τ)) hm hd rfl rfl rfl (by simp only [am_hp, hk]) hp
theorem aw_gsb (hm : am_M[k]? = some M) (hd : decode M.2.1 pc = .ok (.getstatic x, 3)) (hk : am_K M.2.2.2.2 x = (14, 1, 0)) (hp : pc + 3 = pc') : AW d k pc ls st σ ρ g τ Q = AW d k pc' ls (.ref (am_BG + 1) :: st) σ ρ g τ Q :=
  aw_hp (y := (.ref (am_BG + 1) :: st, σ, ρ, g, τ)) hm hd rfl rfl rfl (by simp only [am_hp, hk]) hp
end AWL
