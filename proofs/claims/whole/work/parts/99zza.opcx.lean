/-! read: conditions by themselves -/
abbrev Rs := Bool × Nat × List Tk
def srt (b : Nat → Nat) (l p : Nat) : Nat := if nm b l p 6 = true then 0 else if nm b l p 7 = true then 1 else if nm b l p 8 = true then 2 else 3
def fct (b : Nat → Nat) (l p : Nat) : Nat := if nm b l p 11 = true then 0 else if nm b l p 12 = true then 1 else if nm b l p 13 = true then 2 else if nm b l p 14 = true then 3 else if nm b l p 15 = true then 4 else if nm b l p 16 = true then 5 else 6
def sgn (b : Nat → Nat) (l q : Nat) : Nat := if ot b l q 60 = true then 0 else if ot b l q 61 = true then 1 else if ot b l q 62 = true then 2 else 3
def vl (b : Nat → Nat) (l p : Nat) : Nat := dg b p (te b l p - p)
def pPl (b : Nat → Nat) (l p : Nat) : Rs :=
  if srt b l p < 3 then (true, nx b l p, [(1, 0, 0, srt b l p)])
  else if fct b l p < 6 then
    (if sgn b l (nx b l p) < 3 then
      (if nu b l (nx b l (nx b l p)) 999 = true then (true, nx b l (nx b l (nx b l p)), [(0, fct b l p, sgn b l (nx b l p), vl b l (nx b l (nx b l p)))])
       else (false, nx b l (nx b l p), []))
     else (false, nx b l p, []))
  else (false, p, [])
/-- behind the nots: whether their number is odd, and where -/
def pNt (b : Nat → Nat) (l : Nat) : Nat → Nat → Bool → Bool × Nat
  | 0, p, x => (x, p)
  | n + 1, p, x => if nm b l p 10 = true then pNt b l n (nx b l p) (!x) else (x, p)
def pO2 (b : Nat → Nat) (l : Nat) (inn : Nat → Rs) (t : Bool × Nat) : Rs :=
  if ((if ot b l t.2 40 = true then inn t.2 else pPl b l t.2).1 = true ∧ t.1 = true) then (true, (if ot b l t.2 40 = true then inn t.2 else pPl b l t.2).2.1, (if ot b l t.2 40 = true then inn t.2 else pPl b l t.2).2.2 ++ [tk_no])
  else (if ot b l t.2 40 = true then inn t.2 else pPl b l t.2)
def pOne (b : Nat → Nat) (l : Nat) (inn : Nat → Rs) (p : Nat) : Rs := pO2 b l inn (pNt b l l p false)
def pTl (b : Nat → Nat) (l : Nat) (one : Nat → Rs) (i : Nat) (tk : Tk) : Nat → Nat → Rs
  | 0, p => (true, p, [])
  | n + 1, p =>
    if nm b l p i = true then
      (if (one (nx b l p)).1 = true then ((pTl b l one i tk n (one (nx b l p)).2.1).1, (pTl b l one i tk n (one (nx b l p)).2.1).2.1, (one (nx b l p)).2.2 ++ tk :: (pTl b l one i tk n (one (nx b l p)).2.1).2.2)
       else (false, (one (nx b l p)).2.1, []))
    else (true, p, [])
def pSq (b : Nat → Nat) (l : Nat) (one : Nat → Rs) (i : Nat) (tk : Tk) (p : Nat) : Rs :=
  if (one p).1 = true then ((pTl b l one i tk l (one p).2.1).1, (pTl b l one i tk l (one p).2.1).2.1, (one p).2.2 ++ (pTl b l one i tk l (one p).2.1).2.2)
  else (false, (one p).2.1, [])
def pIn0 (p : Nat) : Rs := (false, p, [])
def pIn (b : Nat → Nat) (l : Nat) (c : Nat → Rs) (p : Nat) : Rs :=
  if (c (nx b l p)).1 = true then
    (if ot b l (c (nx b l p)).2.1 41 = true then (true, nx b l (c (nx b l p)).2.1, (c (nx b l p)).2.2) else (false, (c (nx b l p)).2.1, []))
  else (false, (c (nx b l p)).2.1, [])
/-- what stands in brackets, if k more may be open -/
def pcI (b : Nat → Nat) (l : Nat) : Nat → Nat → Rs
  | 0 => pIn0
  | k + 1 => pIn b l (pSq b l (pSq b l (pOne b l (pcI b l k)) 17 (3, 0, 0, 0)) 18 (4, 0, 0, 0))
def pcO (b : Nat → Nat) (l k : Nat) : Nat → Rs := pOne b l (pcI b l k)
def pcA (b : Nat → Nat) (l k : Nat) : Nat → Rs := pSq b l (pcO b l k) 17 (3, 0, 0, 0)
def pcC (b : Nat → Nat) (l k : Nat) : Nat → Rs := pSq b l (pcA b l k) 18 (4, 0, 0, 0)
theorem pcI_s {b : Nat → Nat} {l k : Nat} : pcI b l (k + 1) = pIn b l (pcC b l k) := rfl
/-- a parsed piece is well made: H is how high the truths may pile -/
def Wf (l H p : Nat) (r : Rs) : Prop := p ≤ r.2.1 ∧ r.2.1 ≤ l ∧ (r.1 = true → p < r.2.1 ∧ p + r.2.2.length ≤ r.2.1 ∧ (∀ t ∈ r.2.2, tk_ok t) ∧ ∀ h us, h + H ≤ 20 → tk_run (r.2.2 ++ us) h = tk_run us (h + 1))
theorem nm_kd {b : Nat → Nat} {l p i : Nat} (h : nm b l p i = true) : kd b l p ≠ 0 := by
  have := (nm_t h).1
  omega
theorem ot_kd {b : Nat → Nat} {l p c : Nat} (h : ot b l p c = true) : kd b l p ≠ 0 := by
  have := (of_decide_eq_true h).1
  omega
theorem nu_kd {b : Nat → Nat} {l p m : Nat} (h : nu b l p m = true) : kd b l p ≠ 0 := by
  have := (of_decide_eq_true h).1
  omega
theorem srt_kd {b : Nat → Nat} {l p : Nat} (h : srt b l p < 3) : kd b l p ≠ 0 := by
  unfold srt at h
  by_cases a : nm b l p 6 = true
  · exact nm_kd a
  by_cases c : nm b l p 7 = true
  · exact nm_kd c
  by_cases e : nm b l p 8 = true
  · exact nm_kd e
  rw [if_neg a, if_neg c, if_neg e] at h
  exact absurd h (by decide)
theorem fct_kd {b : Nat → Nat} {l p : Nat} (h : fct b l p < 6) : kd b l p ≠ 0 := by
  unfold fct at h
  by_cases a1 : nm b l p 11 = true
  · exact nm_kd a1
  by_cases a2 : nm b l p 12 = true
  · exact nm_kd a2
  by_cases a3 : nm b l p 13 = true
  · exact nm_kd a3
  by_cases a4 : nm b l p 14 = true
  · exact nm_kd a4
  by_cases a5 : nm b l p 15 = true
  · exact nm_kd a5
  by_cases a6 : nm b l p 16 = true
  · exact nm_kd a6
  rw [if_neg a1, if_neg a2, if_neg a3, if_neg a4, if_neg a5, if_neg a6] at h
  exact absurd h (by decide)
theorem sgn_kd {b : Nat → Nat} {l p : Nat} (h : sgn b l p < 3) : kd b l p ≠ 0 := by
  unfold sgn at h
  by_cases a : ot b l p 60 = true
  · exact ot_kd a
  by_cases c : ot b l p 61 = true
  · exact ot_kd c
  by_cases e : ot b l p 62 = true
  · exact ot_kd e
  rw [if_neg a, if_neg c, if_neg e] at h
  exact absurd h (by decide)
theorem tr_1 {t : Tk} {us : List Tk} {h : Nat} (ht : t.1 ≤ 1) (hh : h < 20) : tk_run (t :: us) h = tk_run us (h + 1) := by
  show (if t.1 ≤ 1 then _ else _) = _
  rw [if_pos ht, if_pos hh]
theorem tr_n {us : List Tk} {h : Nat} : tk_run (tk_no :: us) (h + 1) = tk_run us (h + 1) := by
  show (if tk_no.1 ≤ 1 then _ else _) = _
  rw [if_neg (by decide), if_pos (by decide), if_pos (by omega)]
theorem tr_2 {t : Tk} {us : List Tk} {h : Nat} (ht : 3 ≤ t.1) : tk_run (t :: us) (h + 2) = tk_run us (h + 1) := by
  show (if t.1 ≤ 1 then _ else _) = _
  rw [if_neg (by omega), if_neg (by omega), if_pos (by omega)]
  rfl
theorem pPl_wf {b : Nat → Nat} {l p : Nat} (hp : p ≤ l) : Wf l 1 p (pPl b l p) := by
  obtain ⟨n1, n2, n3⟩ := nx_b (b := b) hp
  obtain ⟨m1, m2, m3⟩ := nx_b (b := b) n2
  obtain ⟨q1, q2, q3⟩ := nx_b (b := b) m2
  unfold pPl
  by_cases a : srt b l p < 3
  · rw [if_pos a]
    refine ⟨n1, n2, fun _ => ⟨n3 (srt_kd a), n3 (srt_kd a), fun t ht => ?_, fun h us hh => tr_1 (t := (1, 0, 0, srt b l p)) (Nat.le_refl 1) (by omega)⟩⟩
    have e : t = (1, 0, 0, srt b l p) := List.mem_singleton.mp ht
    rw [e]
    exact Or.inr (Or.inl ⟨rfl, rfl, rfl, by show srt b l p ≤ 2; omega⟩)
  rw [if_neg a]
  by_cases c : fct b l p < 6
  rotate_left
  · rw [if_neg c]
    exact ⟨Nat.le_refl _, hp, fun q => absurd q (by show ¬ (false = true); decide)⟩
  rw [if_pos c]
  by_cases e : sgn b l (nx b l p) < 3
  rotate_left
  · rw [if_neg e]
    exact ⟨n1, n2, fun q => absurd q (by show ¬ (false = true); decide)⟩
  rw [if_pos e]
  by_cases f : nu b l (nx b l (nx b l p)) 999 = true
  rotate_left
  · rw [if_neg f]
    exact ⟨by show p ≤ nx b l (nx b l p); omega, m2, fun q => absurd q (by show ¬ (false = true); decide)⟩
  rw [if_pos f]
  have f2 := n3 (fct_kd c)
  refine ⟨by show p ≤ nx b l (nx b l (nx b l p)); omega, q2, fun _ => ⟨by show p < nx b l (nx b l (nx b l p)); omega, by show p + 1 ≤ nx b l (nx b l (nx b l p)); omega, fun t ht => ?_, fun h us hh => tr_1 (t := (0, fct b l p, sgn b l (nx b l p), vl b l (nx b l (nx b l p)))) (Nat.zero_le 1) (by omega)⟩⟩
  have et : t = (0, fct b l p, sgn b l (nx b l p), vl b l (nx b l (nx b l p))) := List.mem_singleton.mp ht
  rw [et]
  have v := (of_decide_eq_true f).2.2
  exact Or.inl ⟨rfl, by show fct b l p ≤ 5; omega, by show sgn b l (nx b l p) ≤ 2; omega, v⟩
theorem pNt_b {b : Nat → Nat} {l : Nat} : ∀ (n p : Nat) (x : Bool), p ≤ l → p ≤ (pNt b l n p x).2 ∧ (pNt b l n p x).2 ≤ l ∧ ((pNt b l n p x).1 ≠ x → p < (pNt b l n p x).2)
  | 0, p, x, hp => ⟨Nat.le_refl _, hp, fun q => absurd rfl q⟩
  | n + 1, p, x, hp => by
    obtain ⟨n1, n2, n3⟩ := nx_b (b := b) hp
    by_cases q : nm b l p 10 = true
    · have u : pNt b l (n + 1) p x = pNt b l n (nx b l p) (!x) := if_pos q
      have i := pNt_b (b := b) n (nx b l p) (!x) n2
      have := n3 (nm_kd q)
      rw [u]
      exact ⟨by omega, i.2.1, fun _ => by omega⟩
    · have u : pNt b l (n + 1) p x = (x, p) := if_neg q
      rw [u]
      exact ⟨Nat.le_refl _, hp, fun q => absurd rfl q⟩
theorem pO2_wf {b : Nat → Nat} {l H : Nat} (hH : 1 ≤ H) {inn : Nat → Rs} (hi : ∀ p, p ≤ l → ot b l p 40 = true → Wf l H p (inn p)) {p : Nat} {t : Bool × Nat} (hp : p ≤ t.2) (hl : t.2 ≤ l) (ht : t.1 = true → p < t.2) : Wf l H p (pO2 b l inn t) := by
  have W : Wf l H t.2 (if ot b l t.2 40 = true then inn t.2 else pPl b l t.2) := by
    by_cases q : ot b l t.2 40 = true
    · rw [if_pos q]
      exact hi _ hl q
    · rw [if_neg q]
      obtain ⟨w1, w2, w3⟩ := pPl_wf (b := b) hl
      refine ⟨w1, w2, fun z => ?_⟩
      obtain ⟨y1, y2, y3, y4⟩ := w3 z
      exact ⟨y1, y2, y3, fun h us hh => y4 h us (by omega)⟩
  unfold pO2
  generalize (if ot b l t.2 40 = true then inn t.2 else pPl b l t.2) = r at W
  obtain ⟨w1, w2, w3⟩ := W
  by_cases q : r.1 = true ∧ t.1 = true
  · rw [if_pos q]
    obtain ⟨y1, y2, y3, y4⟩ := w3 q.1
    have z := ht q.2
    refine ⟨by show p ≤ r.2.1; omega, w2, fun _ => ⟨by show p < r.2.1; omega, ?_, fun x hx => ?_, fun h us hh => ?_⟩⟩
    · show p + (r.2.2 ++ [tk_no]).length ≤ r.2.1
      rw [List.length_append]
      show p + (r.2.2.length + 1) ≤ r.2.1
      omega
    · rcases List.mem_append.mp hx with k | k
      · exact y3 x k
      · rw [List.mem_singleton.mp k]
        exact Or.inr (Or.inr ⟨by decide, by decide, rfl, rfl, rfl⟩)
    · show tk_run ((r.2.2 ++ [tk_no]) ++ us) h = _
      rw [List.append_assoc, y4 h _ hh]
      exact tr_n
  · rw [if_neg q]
    refine ⟨by omega, w2, fun z => ?_⟩
    obtain ⟨y1, y2, y3, y4⟩ := w3 z
    exact ⟨by omega, by omega, y3, y4⟩
theorem pOne_wf {b : Nat → Nat} {l H : Nat} (hH : 1 ≤ H) {inn : Nat → Rs} (hi : ∀ p, p ≤ l → ot b l p 40 = true → Wf l H p (inn p)) {p : Nat} (hp : p ≤ l) : Wf l H p (pOne b l inn p) := by
  obtain ⟨a1, a2, a3⟩ := pNt_b (b := b) l p false hp
  exact pO2_wf hH hi a1 a2 (fun q => a3 (by rw [q]; decide))
theorem pTl_wf {b : Nat → Nat} {l H i : Nat} {tk : Tk} (htk : tk_ok tk) (h3 : 3 ≤ tk.1) {one : Nat → Rs} (ho : ∀ p, p ≤ l → Wf l H p (one p)) : ∀ (n p : Nat), p ≤ l → p ≤ (pTl b l one i tk n p).2.1 ∧ (pTl b l one i tk n p).2.1 ≤ l ∧ ((pTl b l one i tk n p).1 = true → p + (pTl b l one i tk n p).2.2.length ≤ (pTl b l one i tk n p).2.1 ∧ (∀ t ∈ (pTl b l one i tk n p).2.2, tk_ok t) ∧ ∀ h us, h + 1 + H ≤ 20 → tk_run ((pTl b l one i tk n p).2.2 ++ us) (h + 1) = tk_run us (h + 1))
  | 0, p, hp => ⟨Nat.le_refl _, hp, fun _ => ⟨Nat.le_refl _, fun t ht => absurd ht (by show ¬ t ∈ []; exact List.not_mem_nil), fun h us _ => rfl⟩⟩
  | n + 1, p, hp => by
    obtain ⟨n1, n2, n3⟩ := nx_b (b := b) hp
    by_cases q : nm b l p i = true
    rotate_left
    · have u : pTl b l one i tk (n + 1) p = (true, p, []) := if_neg q
      rw [u]
      exact ⟨Nat.le_refl _, hp, fun _ => ⟨Nat.le_refl _, fun t ht => absurd ht (by show ¬ t ∈ []; exact List.not_mem_nil), fun h us _ => rfl⟩⟩
    have pn := n3 (nm_kd q)
    obtain ⟨w1, w2, w3⟩ := ho (nx b l p) n2
    by_cases r : (one (nx b l p)).1 = true
    rotate_left
    · have u : pTl b l one i tk (n + 1) p = (false, (one (nx b l p)).2.1, []) := by
        show (if nm b l p i = true then _ else _) = _
        rw [if_pos q, if_neg r]
      rw [u]
      exact ⟨by show p ≤ (one (nx b l p)).2.1; omega, w2, fun z => absurd z (by show ¬ (false = true); decide)⟩
    have u : pTl b l one i tk (n + 1) p = ((pTl b l one i tk n (one (nx b l p)).2.1).1, (pTl b l one i tk n (one (nx b l p)).2.1).2.1, (one (nx b l p)).2.2 ++ tk :: (pTl b l one i tk n (one (nx b l p)).2.1).2.2) := by
      show (if nm b l p i = true then _ else _) = _
      rw [if_pos q, if_pos r]
    obtain ⟨y1, y2, y3, y4⟩ := w3 r
    obtain ⟨i1, i2, i3⟩ := pTl_wf (i := i) htk h3 ho n (one (nx b l p)).2.1 w2
    rw [u]
    generalize pTl b l one i tk n (one (nx b l p)).2.1 = t at i1 i2 i3
    generalize one (nx b l p) = r1 at w1 w2 y1 y2 y3 y4 i1 i2 i3
    refine ⟨by show p ≤ t.2.1; omega, i2, fun z => ?_⟩
    obtain ⟨j1, j2, j3⟩ := i3 z
    refine ⟨?_, fun x hx => ?_, fun h us hh => ?_⟩
    · show p + (r1.2.2 ++ tk :: t.2.2).length ≤ t.2.1
      rw [List.length_append, List.length_cons]
      omega
    · rcases List.mem_append.mp hx with k | k
      · exact y3 x k
      · rcases List.mem_cons.mp k with k | k
        · rw [k]
          exact htk
        · exact j2 x k
    · show tk_run ((r1.2.2 ++ tk :: t.2.2) ++ us) (h + 1) = _
      rw [List.append_assoc, y4 (h + 1) _ (by omega)]
      show tk_run (tk :: (t.2.2 ++ us)) (h + 2) = _
      rw [tr_2 h3]
      exact j3 h us hh
theorem pSq_wf {b : Nat → Nat} {l H i : Nat} {tk : Tk} (htk : tk_ok tk) (h3 : 3 ≤ tk.1) {one : Nat → Rs} (ho : ∀ p, p ≤ l → Wf l H p (one p)) {p : Nat} (hp : p ≤ l) : Wf l (H + 1) p (pSq b l one i tk p) := by
  obtain ⟨w1, w2, w3⟩ := ho p hp
  by_cases r : (one p).1 = true
  rotate_left
  · have u : pSq b l one i tk p = (false, (one p).2.1, []) := if_neg r
    rw [u]
    exact ⟨w1, w2, fun z => absurd z (by show ¬ (false = true); decide)⟩
  have u : pSq b l one i tk p = ((pTl b l one i tk l (one p).2.1).1, (pTl b l one i tk l (one p).2.1).2.1, (one p).2.2 ++ (pTl b l one i tk l (one p).2.1).2.2) := if_pos r
  obtain ⟨y1, y2, y3, y4⟩ := w3 r
  obtain ⟨i1, i2, i3⟩ := pTl_wf (b := b) (i := i) htk h3 ho l (one p).2.1 w2
  rw [u]
  generalize pTl b l one i tk l (one p).2.1 = t at i1 i2 i3
  generalize one p = r1 at w1 w2 y1 y2 y3 y4 i1 i2 i3
  refine ⟨by show p ≤ t.2.1; omega, i2, fun z => ?_⟩
  obtain ⟨j1, j2, j3⟩ := i3 z
  refine ⟨by show p < t.2.1; omega, ?_, fun x hx => ?_, fun h us hh => ?_⟩
  · show p + (r1.2.2 ++ t.2.2).length ≤ t.2.1
    rw [List.length_append]
    omega
  · rcases List.mem_append.mp hx with k | k
    · exact y3 x k
    · exact j2 x k
  · show tk_run ((r1.2.2 ++ t.2.2) ++ us) h = _
    rw [List.append_assoc, y4 h _ (by omega)]
    exact j3 h us (by omega)
theorem tk3 : tk_ok (3, 0, 0, 0) := Or.inr (Or.inr ⟨by decide, by decide, rfl, rfl, rfl⟩)
theorem tk4 : tk_ok (4, 0, 0, 0) := Or.inr (Or.inr ⟨by decide, by decide, rfl, rfl, rfl⟩)
theorem pcI_wf {b : Nat → Nat} {l : Nat} : ∀ (k p : Nat), p ≤ l → ot b l p 40 = true → Wf l (2 * k + 1) p (pcI b l k p)
  | 0, p, hp, _ => ⟨Nat.le_refl _, hp, fun z => absurd z (by show ¬ (false = true); decide)⟩
  | k + 1, p, hp, ho => by
    obtain ⟨n1, n2, n3⟩ := nx_b (b := b) hp
    have W : Wf l (2 * k + 1 + 1 + 1) (nx b l p) (pcC b l k (nx b l p)) := pSq_wf tk4 (by decide) (fun p hp => pSq_wf tk3 (by decide) (fun p hp => pOne_wf (by omega) (fun p h1 h2 => pcI_wf k p h1 h2) hp) hp) n2
    rw [pcI_s]
    unfold pIn
    have pn := n3 (ot_kd ho)
    generalize pcC b l k (nx b l p) = r at W
    obtain ⟨w1, w2, w3⟩ := W
    by_cases q : r.1 = true
    rotate_left
    · rw [if_neg q]
      exact ⟨by show p ≤ r.2.1; omega, w2, fun z => absurd z (by show ¬ (false = true); decide)⟩
    rw [if_pos q]
    obtain ⟨y1, y2, y3, y4⟩ := w3 q
    obtain ⟨m1, m2, m3⟩ := nx_b (b := b) w2
    by_cases c : ot b l r.2.1 41 = true
    rotate_left
    · rw [if_neg c]
      exact ⟨by show p ≤ r.2.1; omega, w2, fun z => absurd z (by show ¬ (false = true); decide)⟩
    rw [if_pos c]
    refine ⟨by show p ≤ nx b l r.2.1; omega, m2, fun _ => ⟨by show p < nx b l r.2.1; omega, by show p + r.2.2.length ≤ nx b l r.2.1; omega, y3, fun h us hh => y4 h us (by omega)⟩⟩
theorem pcO_wf {b : Nat → Nat} {l k p : Nat} (hp : p ≤ l) : Wf l (2 * k + 1) p (pcO b l k p) := pOne_wf (by omega) (fun p h1 h2 => pcI_wf k p h1 h2) hp
theorem pcA_wf {b : Nat → Nat} {l k p : Nat} (hp : p ≤ l) : Wf l (2 * k + 1 + 1) p (pcA b l k p) := pSq_wf tk3 (by decide) (fun p hp => pcO_wf hp) hp
theorem pcC_wf {b : Nat → Nat} {l k p : Nat} (hp : p ≤ l) : Wf l (2 * k + 1 + 1 + 1) p (pcC b l k p) := pSq_wf tk4 (by decide) (fun p hp => pcA_wf hp) hp
