-- ===== orders: the fewest ticks =====
def mnF (g : Nat → Nat) (L s : Nat) : Nat → Nat
  | 0 => s
  | i + 1 => if L / 2 ^ i % 2 = 1 then min (g i) (mnF g L s i) else mnF g L s i
def fwF (H : Nat → Nat → Nat) (c : Nat) : Nat → Nat → Nat → Nat
  | 0, _, _ => 0
  | k + 1, L, f => if L = 0 then 0 else mnF (fun t => H f t + fwF H c k (L ^^^ 2 ^ t) t) L 1073741824 c
theorem mn_cg {g g' : Nat → Nat} {L s : Nat} : ∀ i, (∀ j, j < i → L / 2 ^ j % 2 = 1 → g j = g' j) → mnF g L s i = mnF g' L s i := by
  intro i
  induction i with
  | zero => intro _; rfl
  | succ i ih =>
    intro h
    rw [mnF, mnF, ih (fun j hj q => h j (by omega) q)]
    by_cases q : L / 2 ^ i % 2 = 1
    · rw [if_pos q, if_pos q, h i (by omega) q]
    · rw [if_neg q, if_neg q]
theorem mn_le {g : Nat → Nat} {L s : Nat} : ∀ i j, j < i → L / 2 ^ j % 2 = 1 → mnF g L s i ≤ g j := by
  intro i
  induction i with
  | zero => intro j h; omega
  | succ i ih =>
    intro j hj q
    rw [mnF]
    by_cases e : j = i
    · subst e; rw [if_pos q]; omega
    · have := ih j (by omega) q
      split <;> omega
theorem mn_ls {g : Nat → Nat} {L s : Nat} : ∀ i, mnF g L s i ≤ s := by
  intro i
  induction i with
  | zero => exact Nat.le_refl _
  | succ i ih => rw [mnF]; split <;> omega
theorem mn_mn {g : Nat → Nat} {L s s' : Nat} : ∀ i, mnF g L (min s s') i = min s (mnF g L s' i) := by
  intro i
  induction i with
  | zero => rfl
  | succ i ih =>
    rw [mnF, mnF, ih]
    split <;> omega
theorem mn_st {g : Nat → Nat} {L s s' i j : Nat} (hj : j < i) (q : L / 2 ^ j % 2 = 1) (h : g j ≤ s) (hs : s ≤ s') : mnF g L s i = mnF g L s' i := by
  have h1 := mn_mn (g := g) (L := L) (s := s) (s' := s') i
  have h2 := mn_le (g := g) (L := L) (s := s') i j hj q
  rw [show min s s' = s by omega] at h1
  omega
theorem mn_ex {g : Nat → Nat} {L s : Nat} : ∀ i, mnF g L s i < s → ∃ j, j < i ∧ L / 2 ^ j % 2 = 1 ∧ g j = mnF g L s i := by
  intro i
  induction i with
  | zero => intro h; exact absurd (show s < s from h) (Nat.lt_irrefl _)
  | succ i ih =>
    intro h
    rw [mnF] at h ⊢
    by_cases q : L / 2 ^ i % 2 = 1
    · rw [if_pos q] at h ⊢
      by_cases e : g i ≤ mnF g L s i
      · exact ⟨i, by omega, q, by omega⟩
      · obtain ⟨j, j1, j2, j3⟩ := ih (by omega)
        exact ⟨j, by omega, j2, by omega⟩
    · rw [if_neg q] at h ⊢
      obtain ⟨j, j1, j2, j3⟩ := ih h
      exact ⟨j, by omega, j2, j3⟩
theorem ms_lt : ∀ L, L < 256 → ∀ t, t < 8 → L / 2 ^ t % 2 = 1 → L ^^^ 2 ^ t < L ∧ poN (L ^^^ 2 ^ t) 8 + 1 = poN L 8 := by decide +kernel
theorem ms_ex : ∀ c, c < 9 → ∀ L, L < 256 → L < 2 ^ c → L ≠ 0 → ∃ t, t < c ∧ L / 2 ^ t % 2 = 1 := by decide +kernel
theorem p2c : ∀ c, c < 9 → 2 ^ c ≤ 256 ∧ 1 ≤ 2 ^ c ∧ poN (2 ^ c - 1) 8 = c := by decide +kernel
theorem fw_fuel {H : Nat → Nat → Nat} {c : Nat} (hc : c ≤ 8) : ∀ k k' L f, L < 2 ^ c → L ≤ k → L ≤ k' → fwF H c k L f = fwF H c k' L f := by
  have h8 := (p2c c (by omega)).1
  have z : ∀ k f, fwF H c k 0 f = 0 := by
    intro k f
    cases k with
    | zero => rfl
    | succ k => exact if_pos rfl
  intro k
  induction k with
  | zero =>
    intro k' L f hL h1 h2
    have : L = 0 := by omega
    subst this
    rw [z, z]
  | succ k ih =>
    intro k' L f hL h1 h2
    by_cases e : L = 0
    · subst e; rw [z, z]
    · cases k' with
      | zero => omega
      | succ k' =>
        rw [fwF, fwF, if_neg e, if_neg e]
        refine mn_cg c (fun j hj q => ?_)
        have := (ms_lt L (by omega) j (by omega) q).1
        try dsimp only
        rw [ih k' _ j (by omega) (by omega) (by omega)]
def fqN (H : Nat → Nat → Nat) (c L f : Nat) : Nat := fwF H c L L f
theorem fqN_0 (H : Nat → Nat → Nat) (c f : Nat) : fqN H c 0 f = 0 := rfl
theorem fqN_eq {H : Nat → Nat → Nat} {c L f : Nat} (hc : c ≤ 8) (hL : L < 2 ^ c) (h0 : L ≠ 0) : fqN H c L f = mnF (fun t => H f t + fqN H c (L ^^^ 2 ^ t) t) L 1073741824 c := by
  have h8 := (p2c c (by omega)).1
  unfold fqN
  cases L with
  | zero => exact absurd rfl h0
  | succ n =>
    rw [fwF, if_neg h0]
    refine mn_cg c (fun j hj q => ?_)
    have := (ms_lt (n + 1) (by omega) j (by omega) q).1
    try dsimp only
    rw [fw_fuel hc n ((n + 1) ^^^ 2 ^ j) ((n + 1) ^^^ 2 ^ j) j (by omega) (by omega) (Nat.le_refl _)]
def okH (H : Nat → Nat → Nat) (c : Nat) : Prop := ∀ a b, a ≤ c → b < c → H a b ≤ 1011000
theorem fqN_le {H : Nat → Nat → Nat} {c : Nat} (hc : c ≤ 8) (hH : okH H c) : ∀ n L f, L < n → L < 2 ^ c → f ≤ c → fqN H c L f ≤ L * 1011000 := by
  have h8 := (p2c c (by omega)).1
  intro n
  induction n with
  | zero => intro L f h; omega
  | succ n ih =>
    intro L f h hL hf
    by_cases e : L = 0
    · subst e; exact Nat.zero_le _
    · obtain ⟨t, t1, t2⟩ := ms_ex c (by omega) L (by omega) hL e
      have h1 := (ms_lt L (by omega) t (by omega) t2).1
      rw [fqN_eq hc hL e]
      have h2 := mn_le (g := fun t => H f t + fqN H c (L ^^^ 2 ^ t) t) (L := L) (s := 1073741824) c t t1 t2
      have h3 := ih (L ^^^ 2 ^ t) t (by omega) (by omega) (by omega)
      have h4 := hH f t hf t1
      have h5 : (L ^^^ 2 ^ t) * 1011000 + 1011000 ≤ L * 1011000 := by
        have : ((L ^^^ 2 ^ t) + 1) * 1011000 ≤ L * 1011000 := Nat.mul_le_mul_right _ h1
        rw [Nat.add_mul, Nat.one_mul] at this; exact this
      try dsimp only at h2
      omega
theorem fqN_b {H : Nat → Nat → Nat} {c L f : Nat} (hc : c ≤ 8) (hH : okH H c) (hL : L < 2 ^ c) (hf : f ≤ c) : fqN H c L f ≤ 258000000 := by
  have h8 := (p2c c (by omega)).1
  have h1 := fqN_le hc hH (L + 1) L f (by omega) hL hf
  have h2 : L * 1011000 ≤ 255 * 1011000 := Nat.mul_le_mul_right _ (by omega)
  omega
/-- the first stop of an order with the fewest ticks -/
def gdF (H : Nat → Nat → Nat) (c L f t : Nat) : Nat := if L / 2 ^ t % 2 = 1 ∧ H f t + fqN H c (L ^^^ 2 ^ t) t = fqN H c L f then 1 else 0
def ftN (H : Nat → Nat → Nat) (c L f : Nat) : Nat := (fiO (gdF H c L f) c).getD 0
theorem fiO_none {f : Nat → Nat} : ∀ k, fiO f k = none → ∀ y, y < k → f y ≠ 1 := by
  intro k
  induction k with
  | zero => intro _ y hy; omega
  | succ k ih =>
    intro h y hy
    rw [fiO] at h
    cases e : fiO f k with
    | some x => rw [e] at h; exact absurd h (by simp)
    | none =>
      rw [e] at h
      try dsimp only at h
      by_cases q : y = k
      · subst q
        intro h1
        rw [if_pos h1] at h
        exact absurd h (by simp)
      · exact ih e y (by omega)
theorem fiO_some {f : Nat → Nat} : ∀ k x, fiO f k = some x → x < k ∧ f x = 1 ∧ ∀ y, y < x → f y ≠ 1 := by
  intro k
  induction k with
  | zero => intro x h; exact absurd (show (none : Option Nat) = some x from h) (by simp)
  | succ k ih =>
    intro x h
    rw [fiO] at h
    cases e : fiO f k with
    | some z =>
      rw [e] at h
      have h2 : z = x := Option.some.inj h
      subst h2
      have := ih z e
      exact ⟨by omega, this.2⟩
    | none =>
      rw [e] at h
      try dsimp only at h
      by_cases q : f k = 1
      · rw [if_pos q] at h
        have h2 : k = x := Option.some.inj h
        subst h2
        exact ⟨by omega, q, fiO_none k e⟩
      · rw [if_neg q] at h
        exact absurd h (by simp)
theorem ft_ok {H : Nat → Nat → Nat} {c L f : Nat} (hc : c ≤ 8) (hH : okH H c) (hL : L < 2 ^ c) (h0 : L ≠ 0) (hf : f ≤ c) : fiO (gdF H c L f) c = some (ftN H c L f) ∧ ftN H c L f < c ∧ L / 2 ^ ftN H c L f % 2 = 1 ∧ H f (ftN H c L f) + fqN H c (L ^^^ 2 ^ ftN H c L f) (ftN H c L f) = fqN H c L f := by
  have hb := fqN_b (f := f) hc hH hL hf
  have he := fqN_eq (H := H) (f := f) hc hL h0
  obtain ⟨t, t1, t2, t3⟩ := mn_ex (g := fun t => H f t + fqN H c (L ^^^ 2 ^ t) t) (L := L) (s := 1073741824) c (by omega)
  rw [← he] at t3
  cases e : fiO (gdF H c L f) c with
  | none =>
    have := fiO_none c e t t1
    exact absurd (if_pos ⟨t2, t3⟩) this
  | some x =>
    have hx : ftN H c L f = x := by unfold ftN; rw [e]; rfl
    obtain ⟨x1, x2, x3⟩ := fiO_some c x e
    rw [hx]
    by_cases q : L / 2 ^ x % 2 = 1 ∧ H f x + fqN H c (L ^^^ 2 ^ x) x = fqN H c L f
    · exact ⟨rfl, x1, q.1, q.2⟩
    · have : gdF H c L f x = 0 := if_neg q
      omega
/-- the way: what is left, and where one is -/
def ptN (H : Nat → Nat → Nat) (c : Nat) : Nat → Nat × Nat
  | 0 => (2 ^ c - 1, c)
  | i + 1 => ((ptN H c i).1 ^^^ 2 ^ ftN H c (ptN H c i).1 (ptN H c i).2, ftN H c (ptN H c i).1 (ptN H c i).2)
theorem pt_ok {H : Nat → Nat → Nat} {c : Nat} (hc : c ≤ 8) (hH : okH H c) : ∀ i, i ≤ c → (ptN H c i).1 < 2 ^ c ∧ (ptN H c i).2 ≤ c ∧ poN (ptN H c i).1 8 = c - i := by
  have h8 := p2c c (by omega)
  intro i
  induction i with
  | zero =>
    intro _
    exact ⟨by show 2 ^ c - 1 < _; omega, Nat.le_refl _, h8.2.2⟩
  | succ i ih =>
    intro hi
    obtain ⟨i1, i2, i3⟩ := ih (by omega)
    have h0 : (ptN H c i).1 ≠ 0 := by
      intro e
      rw [e] at i3
      have : poN 0 8 = 0 := by decide
      omega
    obtain ⟨f1, f2, f3, f4⟩ := ft_ok (H := H) hc hH i1 h0 i2
    have g := ms_lt _ (show (ptN H c i).1 < 256 by omega) _ (show ftN H c (ptN H c i).1 (ptN H c i).2 < 8 by omega) f3
    exact ⟨by show _ ^^^ _ < _; omega, by show ftN H c _ _ ≤ c; omega, by show poN (_ ^^^ _) 8 = _; omega⟩
theorem pt_ne {H : Nat → Nat → Nat} {c i : Nat} (hc : c ≤ 8) (hH : okH H c) (hi : i < c) : (ptN H c i).1 ≠ 0 := by
  intro e
  have := (pt_ok (H := H) hc hH i (by omega)).2.2
  rw [e] at this
  have : poN 0 8 = 0 := by decide
  omega
-- which blocks
def chN (s : Nat) : Nat → Nat → Nat
  | 0 => fun _ => 0
  | b + 1 => fun k => if s / 2 ^ b % 2 = 1 ∧ k = poN s b then b else chN s b k
theorem ch_lt (s : Nat) : ∀ b k, k < poN s b → chN s b k < b := by
  intro b
  induction b with
  | zero => intro k h; exact absurd h (Nat.not_lt_zero _)
  | succ b ih =>
    intro k h
    have e : chN s (b + 1) k = if s / 2 ^ b % 2 = 1 ∧ k = poN s b then b else chN s b k := rfl
    rw [poN] at h
    rw [e]
    by_cases q : s / 2 ^ b % 2 = 1 ∧ k = poN s b
    · rw [if_pos q]; omega
    · rw [if_neg q]
      have := ih k (by omega)
      omega
theorem ch_old {s b k : Nat} (h : k < poN s b) : chN s (b + 1) k = chN s b k := if_neg (fun q => by omega)
theorem po_mono {s : Nat} {a b : Nat} (h : a ≤ b) : poN s a ≤ poN s b := by
  induction h with
  | refl => exact Nat.le_refl _
  | step _ ih => rw [poN]; omega
theorem ch_stop {s n : Nat} (hs : s < 2 ^ n) : ∀ b, n ≤ b → poN s b = poN s n ∧ ∀ k, k < poN s n → chN s b k = chN s n k := by
  intro b hb
  induction hb with
  | refl => exact ⟨rfl, fun _ _ => rfl⟩
  | step hb ih =>
    rename_i m
    have z : s / 2 ^ m = 0 := Nat.div_eq_of_lt (Nat.lt_of_lt_of_le hs (Nat.pow_le_pow_right (by omega) hb))
    refine ⟨?_, fun k hk => ?_⟩
    · rw [poN, z, ih.1]; rfl
    · rw [ch_old (by rw [ih.1]; exact hk)]; exact ih.2 k hk
