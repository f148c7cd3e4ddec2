-- ===== streams =====
def lsN (n bf nx : Nat) : Nat := (if n < nx + bf then n else nx + bf) - 1
def flN (n ev bf t nx : Nat) : Nat := if t < lsN n bf nx * ev then lsN n bf nx * ev else t
def stF (n ev each hit bf : Nat) : Nat → Nat → Nat → Nat → Nat × Nat
  | 0, _, U, st => (U + each, st)
  | k + 1, i, U, st => if U + each < (i + 1) * ev then stF n ev each hit bf k (i + 1) (flN n ev bf (U + each + hit) (i + 1)) (st + 1) else stF n ev each hit bf k (i + 1) (U + each) st
theorem lsN_le {n bf nx : Nat} (hn : n ≤ 99) : lsN n bf nx ≤ 98 := by unfold lsN; split <;> omega
theorem lsN_mul {n bf nx ev : Nat} (hn : n ≤ 99) (he : ev ≤ 9999) : lsN n bf nx * ev ≤ 1000000 := Nat.le_trans (Nat.mul_le_mul (lsN_le hn) he) (by decide)
theorem flN_le {n ev bf t nx : Nat} (hn : n ≤ 99) (he : ev ≤ 9999) : flN n ev bf t nx ≤ 1000000 ∨ flN n ev bf t nx ≤ t := by
  have h1 := lsN_mul (bf := bf) (nx := nx) hn he
  unfold flN
  split
  · left; exact h1
  · right; exact Nat.le_refl _
theorem flN_ge {n ev bf t nx : Nat} : t ≤ flN n ev bf t nx := by unfold flN; split <;> omega
theorem s_fill {Q : Int32 → MM → Prop} {M : MM} {t nx n ev bf : Nat} (hn : 1 ≤ n ∧ n ≤ 99) (hb : 1 ≤ bf ∧ bf ≤ 99) (hx : nx ≤ 99) (he : ev ≤ 9999) (ht : t < 100000000) (hq : Q (nI (flN n ev bf t nx)) M) : wX2_timeWhenFilled Q M (nI t) (nI nx) (nI n) (nI ev) (nI bf) := by
  unfold wX2_timeWhenFilled
  rintro x1 e1
  have e2 : x1 = nI (lsN n bf nx) := by
    rw [e1, nI_add]
    unfold lsN
    by_cases c : n < nx + bf
    · rw [if_pos c, if_pos ((nI_ltI (by omega) (by omega)).mpr c), nI_sub1 hn.1]
    · rw [if_neg c, if_neg (fun q => c ((nI_ltI (by omega) (by omega)).mp q)), nI_sub1 (by omega)]
  have h1 := lsN_mul (bf := bf) (nx := nx) hn.2 he
  rw [e2, pk_mul]
  unfold flN at hq
  by_cases c : t < lsN n bf nx * ev
  · rw [if_pos c] at hq
    rw [if_pos ((nI_ltI (by omega) (by omega)).mpr c)]; exact hq
  · rw [if_neg c] at hq
    rw [if_neg (fun q => c ((nI_ltI (by omega) (by omega)).mp q))]; exact hq
theorem s_str {Q : Int32 → MM → Prop} {M : MM} {n l ev bf each : Nat} {w : Int32} {R : Nat → Nat} {σ : SS} (hR : okR R) (hc : clT M 1 R σ) (hn : 1 ≤ n ∧ n ≤ 99) (hb : 1 ≤ bf ∧ bf ≤ 99) (he : ev ≤ 9999) (hea : each ≤ 20000) : ∀ k i U st, i + k + 1 = n → U ≤ 1000000 + i * 21000 → Q (if w = 0 then nI (stF n ev each (R 8) bf k i U st).1 else nI (stF n ev each (R 8) bf k i U st).2) M → wX2_streamed_31 Q 1 (nI n) (nI l) (nI ev) (nI bf) w (k + 1) M (nI each) (nI st) (nI (U + each)) (nI (i + 1)) := by
  have h8 := hR.2.2.2.2.2.2
  intro k
  induction k with
  | zero =>
    intro i U st hi hU hq
    refine br_t (nI_le (by omega) (by omega)) ?_
    by_cases hw : w = 0
    · rw [if_pos hw] at hq; exact br_t hw hq
    · rw [if_neg hw] at hq; exact br_f hw hq
  | succ k ih =>
    intro i U st hi hU hq
    have hm := Nat.mul_le_mul (show i + 1 ≤ 99 by omega) he
    refine br_f (fun q => ?_) ?_
    · have := (nI_leI (by omega) (by omega)).mp q; omega
    · rw [pk_mul, nI_leI (by omega) (by omega)]
      rw [stF] at hq
      by_cases c : U + each < (i + 1) * ev
      · rw [if_pos c] at hq
        refine br_f (by omega) (s_ruled (Or.inl rfl) 8 (by omega) rfl ?_)
        rw [hc.1.2 8 (by omega) (by omega), nI_add]
        refine s_fill hn hb (by omega) he (by omega) ?_
        unfold wX2_streamed_69
        rw [nI_add, nI_1, nI_1]
        refine ih (i + 1) _ (st + 1) (by omega) ?_ hq
        rcases flN_le (bf := bf) (t := U + each + R 8) (nx := i + 1) hn.2 he with g | g <;> omega
      · rw [if_neg c] at hq
        refine br_t (by omega) ?_
        unfold wX2_streamed_69
        rw [nI_add, nI_1]
        exact ih (i + 1) _ st (by omega) (by omega) hq
def stA (R : Nat → Nat) (n l ev bf : Nat) : Nat × Nat := stF n ev (R 3 * (l + R 6)) (R 8) bf (n - 1) 0 (flN n ev bf 0 0) 0
theorem s_streamed {Q : Int32 → MM → Prop} {M : MM} {n l ev bf : Nat} {w : Int32} {R : Nat → Nat} {σ : SS} (hR : okR R) (hc : clT M 1 R σ) (hn : 1 ≤ n ∧ n ≤ 99) (hl : l ≤ 99) (hb : 1 ≤ bf ∧ bf ≤ 99) (he : ev ≤ 9999) (hq : Q (if w = 0 then nI (stA R n l ev bf).1 else nI (stA R n l ev bf).2) M) : wX2_streamed Q M 1 (nI n) (nI l) (nI ev) (nI bf) w := by
  unfold wX2_streamed
  have hb1 : tpB 1 := Or.inl rfl
  have h3 := hR.2.1
  have h6 := hR.2.2.2.2.1
  have hea : R 3 * (l + R 6) ≤ 20000 := Nat.le_trans (Nat.mul_le_mul h3.2 (show l + R 6 ≤ 198 by omega)) (by decide)
  refine s_ruled hb1 6 (by omega) rfl ?_
  unfold wX2_playedThrough
  refine s_ruled hb1 3 (by omega) rfl ?_
  rw [hc.1.2 6 (by omega) (by omega), hc.1.2 3 (by omega) (by omega), nI_add, pk_mul]
  refine s_fill (t := 0) (nx := 0) hn hb (by omega) he (by omega) ⟨n + 1, ?_⟩
  refine br_f (fun q => ?_) (br_t ?_ ?_)
  · have := (nI_leI (b := 0) (by omega) (by omega)).mp q; omega
  · have e : (0 : Int32) * nI ev = nI 0 := by rw [n0, pk_mul, Nat.zero_mul]
    rw [e]
    refine nI_le (Nat.zero_le _) ?_
    rcases flN_le (n := n) (bf := bf) (t := 0) (nx := 0) hn.2 he with g | g <;> omega
  · unfold wX2_streamed_69
    rw [nI_add]
    have := s_str (l := l) (w := w) (each := R 3 * (l + R 6)) hR hc hn hb he hea (n - 1) 0 (flN n ev bf 0 0) 0 (by omega) (by rcases flN_le (n := n) (bf := bf) (t := 0) (nx := 0) hn.2 he with g | g <;> omega) hq
    have e2 : n - 1 + 1 = n := by omega
    rw [e2] at this
    exact this
-- ===== the reference's streams =====
theorem mset_mset {M : MM} {k j : Nat} {v w : Int32} : mset (mset M k j v) k j w = mset M k j w := by
  funext a i
  unfold mset mrow upd
  by_cases h : a = k
  · simp only [h, if_true]; by_cases g : i = j <;> simp [g]
  · simp only [h, if_false]
theorem m_less {Q : Int32 → MM → Prop} {M : MM} {a b : Nat} (ha : a < 2 ^ 31) (hb : b < 2 ^ 31) (hq : Q (nI (if b < a then b else a)) M) : wX5_less Q M (nI a) (nI b) := by
  unfold wX5_less
  rw [nI_leI hb ha]
  by_cases c : b ≤ a
  · have e : (if b < a then b else a) = b := by split <;> omega
    rw [e] at hq; exact br_t c hq
  · have e : (if b < a then b else a) = a := by split <;> omega
    rw [e] at hq; exact br_f c hq
theorem m_head {Q : Int32 → MM → Prop} {M : MM} {n l ev bf f i t w U : Nat} (hn : 1 ≤ n ∧ n ≤ 99) (hb : 1 ≤ bf ∧ bf ≤ 99) (he : ev ≤ 9999) (hi : i < n) (ht : t < 100000000) (hw : w ≤ 1) (eU : U = (if w = 0 then t else flN n ev bf t i)) (h : wX5_streams_56 Q (fun M v5 v6 v7 => wX5_streams_14 Q (nI n) (nI l) (nI ev) (nI bf) f M v5 v6 v7) (nI n) (nI l) (nI ev) (nI bf) M (nI i) (nI U)) : wX5_streams_14 Q (nI n) (nI l) (nI ev) (nI bf) (f + 1) M (nI t) (nI i) (nI w) := by
  refine br_f (fun q => ?_) ?_
  · have := (nI_leI (by omega) (by omega)).mp q; omega
  rw [nI_add]
  refine m_less (by omega) (by omega) ?_
  rintro x4 e4
  have e5 : x4 = nI (lsN n bf i) := by rw [e4]; unfold lsN; exact nI_sub1 (by split <;> omega)
  have h1 := lsN_mul (bf := bf) (nx := i) hn.2 he
  rw [e5, pk_mul, nI_leI (by omega) (by omega)]
  unfold wX5_streams_54
  by_cases hw0 : w = 0
  · rw [if_pos hw0] at eU
    rw [eU] at h
    exact br_t (by rw [hw0]; rfl) h
  · rw [if_neg hw0] at eU
    refine br_f (fun q => hw0 ((nI_eq (b := 0) (by omega) (by omega)).mp q)) ?_
    unfold flN at eU
    by_cases c : t < lsN n bf i * ev
    · rw [if_pos c] at eU
      rw [eU] at h
      exact br_f (by omega) h
    · rw [if_neg c] at eU
      rw [eU] at h
      exact br_t (by omega) h
theorem m_str {Q : Int32 → MM → Prop} {M : MM} {n l ev bf : Nat} {R : Nat → Nat} (hR : okR R) (hr : rlT M R) (hn : 1 ≤ n ∧ n ≤ 99) (hl : l ≤ 99) (hb : 1 ≤ bf ∧ bf ≤ 99) (he : ev ≤ 9999) : ∀ k i t w U st, i + k + 1 = n → U ≤ 1000000 + i * 21000 → t ≤ U → w ≤ 1 → U = (if w = 0 then t else flN n ev bf t i) → Q (nI (stF n ev (R 3 * (l + R 6)) (R 8) bf k i U st).1) (mset M 52 21 (nI (stF n ev (R 3 * (l + R 6)) (R 8) bf k i U st).2)) → wX5_streams_14 Q (nI n) (nI l) (nI ev) (nI bf) (k + 2) (mset M 52 21 (nI st)) (nI t) (nI i) (nI w) := by
  have h8 := hR.2.2.2.2.2.2
  have h3 := hR.2.1
  have h6 := hR.2.2.2.2.1
  have hea : R 3 * (l + R 6) ≤ 20000 := Nat.le_trans (Nat.mul_le_mul h3.2 (show l + R 6 ≤ 198 by omega)) (by decide)
  have r3 : ∀ v, mset M 52 21 v 55 3 = nI (R 3) := fun v => by rw [mset_n (by decide)]; exact hr 3 (by omega) (by omega)
  have r6 : ∀ v, mset M 52 21 v 55 6 = nI (R 6) := fun v => by rw [mset_n (by decide)]; exact hr 6 (by omega) (by omega)
  have r8 : ∀ v, mset M 52 21 v 55 8 = nI (R 8) := fun v => by rw [mset_n (by decide)]; exact hr 8 (by omega) (by omega)
  intro k
  induction k with
  | zero =>
    intro i t w U st hi hU htU hw eU hq
    refine m_head hn hb he (by omega) (by omega) hw eU ?_
    unfold wX5_streams_56
    rintro _ rfl
    rw [r3, r6, nI_add, pk_mul, nI_add, nI_1]
    refine br_t (nI_le (by omega) (by omega)) ?_
    unfold wX5_streams_101 wX5_streams_102 wX5_flag
    refine o_t0 ?_
    rintro _ rfl
    refine o_t0 ?_
    unfold wX5_streams_136
    refine br_t (nI_le (by omega) (by omega)) ?_
    rw [mset_ss, mset_mset, n0, nI_add, nI_add, Nat.add_zero, Nat.add_zero]
    exact hq
  | succ k ih =>
    intro i t w U st hi hU htU hw eU hq
    have hm := Nat.mul_le_mul (show i + 1 ≤ 99 by omega) he
    refine m_head hn hb he (by omega) (by omega) hw eU ?_
    unfold wX5_streams_56
    rintro _ rfl
    rw [r3, r6, nI_add, pk_mul, nI_add, nI_1]
    refine br_f (fun q => ?_) ?_
    · have := (nI_leI (by omega) (by omega)).mp q; omega
    rw [pk_mul, nI_leI (by omega) (by omega)]
    rw [stF] at hq
    by_cases c : U + R 3 * (l + R 6) < (i + 1) * ev
    · rw [if_pos c] at hq
      refine br_f (by omega) ?_
      unfold wX5_streams_102 wX5_flag
      refine o_t1 ?_
      rintro _ rfl
      refine o_t1 ?_
      unfold wX5_streams_136
      rw [mset_ss, mset_mset, r8, nI_1, nI_add]
      refine ih (i + 1) _ 1 _ (st + 1) (by omega) ?_ flN_ge (by omega) rfl hq
      rcases flN_le (bf := bf) (t := U + R 3 * (l + R 6) + R 8) (nx := i + 1) hn.2 he with g | g <;> omega
    · rw [if_neg c] at hq
      refine br_t (by omega) ?_
      unfold wX5_streams_101 wX5_streams_102 wX5_flag
      refine o_t0 ?_
      rintro _ rfl
      refine o_t0 ?_
      unfold wX5_streams_136
      rw [mset_ss, mset_mset, n0, nI_add, nI_add, Nat.add_zero, Nat.add_zero]
      exact ih (i + 1) _ 0 _ st (by omega) (by omega) (Nat.le_refl _) (by omega) rfl hq
theorem m_streams {Q : Int32 → MM → Prop} {M : MM} {n l ev bf : Nat} {R : Nat → Nat} (hR : okR R) (hr : rlT M R) (hn : 1 ≤ n ∧ n ≤ 99) (hl : l ≤ 99) (hb : 1 ≤ bf ∧ bf ≤ 99) (he : ev ≤ 9999) (hq : Q (nI (stA R n l ev bf).1) (mset M 52 21 (nI (stA R n l ev bf).2))) : wX5_streams Q M (nI n) (nI l) (nI ev) (nI bf) := by
  unfold wX5_streams
  rintro _ rfl
  refine ⟨n - 1 + 2, ?_⟩
  exact m_str hR hr hn hl hb he (n - 1) 0 0 1 (flN n ev bf 0 0) 0 (by omega) (by rcases flN_le (n := n) (bf := bf) (t := 0) (nx := 0) hn.2 he with g | g <;> omega) (Nat.zero_le _) (by omega) rfl hq
/-- what lies aside may change -/
theorem Rel.stops {M : MM} (h : Rel M) (v : Int32) : Rel (mset M 52 21 v) := by
  obtain ⟨R, σ, hR, hS, hc, hm, hr, him, hsh, htx⟩ := id h
  refine Rel.step hR hS (hc.keep (fun i hi => mset_n (by omega))) (hm.keep (mset_n (by omega))) hr him hsh htx (fun k hk => mset_n (by unfold keepP at hk; omega)) (fun j _ => by rw [mset_n (by omega)]) ⟨mset_sn (by omega), mset_sn (by omega), mset_sn (by omega)⟩
-- ===== stream, buffer =====
def stP (n l e : Int32) : Prop := (1 ≤ n ∧ n ≤ 99) ∧ (1 ≤ l ∧ l ≤ 99) ∧ (0 ≤ e ∧ e ≤ 9999)
theorem s_isStream {Q : Int32 → MM → Prop} {M : MM} {n l e : Int32} (h1 : stP n l e → Q 1 M) (h0 : ¬ stP n l e → Q 0 M) : wX4_isStream Q M n l e := by
  unfold wX4_isStream wX4_isStream_35
  refine s_isBetween.mpr ?_
  by_cases a : (1 : Int32) ≤ n ∧ n ≤ 99
  · refine zt2 a (s_isBetween.mpr ?_)
    by_cases b : (1 : Int32) ≤ l ∧ l ≤ 99
    · refine zt2 b (s_isBetween.mpr ?_)
      by_cases c : (0 : Int32) ≤ e ∧ e ≤ 9999
      · exact zt2 c (h1 ⟨a, b, c⟩)
      · exact zf2 c (h0 (fun q => c q.2.2))
    · exact zf2 b (h0 (fun q => b q.2.1))
  · exact zf2 a (h0 (fun q => a q.1))
theorem m_isStream {Q : Int32 → MM → Prop} {M : MM} {n l e : Int32} (h1 : stP n l e → Q 1 M) (h0 : ¬ stP n l e → Q 0 M) : wX5_isStream Q M n l e := by
  unfold wX5_isStream wX5_isStream_40
  refine m_in32 1 99 rfl rfl ?_
  by_cases a : (1 : Int32) ≤ n ∧ n ≤ 99
  · refine zt2 a (m_in32 1 99 rfl rfl ?_)
    by_cases b : (1 : Int32) ≤ l ∧ l ≤ 99
    · refine zt2 b (m_in32 0 9999 rfl rfl ?_)
      by_cases c : (0 : Int32) ≤ e ∧ e ≤ 9999
      · exact zt2 c (h1 ⟨a, b, c⟩)
      · exact zf2 c (h0 (fun q => c q.2.2))
    · exact zf2 b (h0 (fun q => b q.2.1))
  · exact zf2 a (h0 (fun q => a q.1))
theorem in1_of {x : Int32} {L : Nat} (hL : L < 2 ^ 31) (h : (1 : Int32) ≤ x ∧ x ≤ nI L) : ∃ j, 1 ≤ j ∧ j ≤ L ∧ x = nI j := by
  obtain ⟨j, hj, rfl⟩ := pl_of hL ⟨Int32.le_trans (by decide) h.1, h.2⟩
  exact ⟨j, (nI_leI (a := 1) (by omega) (by omega)).mp h.1, hj, rfl⟩
theorem L_stream {M : MM} (h : Rel M) (n l e b w : Int32) : wX4_stream (fun r M1 => wX5_stream (PQ r) M1 n l e b w) M n l e b w := by
  obtain ⟨R, σ, hR, hS, hc, hm, hr, him, hsh, htx⟩ := id h
  unfold wX4_stream
  refine s_isStream (fun hp => o_t1 (s_isBetween.mpr ?_)) (fun hp => o_t0 ?_)
  · by_cases hb : (1 : Int32) ≤ b ∧ b ≤ 99
    · refine zt2 hb (s_isBetween.mpr ?_)
      by_cases hw : (0 : Int32) ≤ w ∧ w ≤ 1
      · refine zt1 hw ?_
        obtain ⟨n', hn1, hn2, rfl⟩ := in1_of (L := 99) (by omega) hp.1
        obtain ⟨l', hl1, hl2, rfl⟩ := in1_of (L := 99) (by omega) hp.2.1
        obtain ⟨e', he, rfl⟩ := pl_of (L := 9999) (by omega) hp.2.2
        obtain ⟨b', hb1, hb2, rfl⟩ := in1_of (L := 99) (by omega) hb
        have md : ∀ r, r = (if w = 0 then nI (stA R n' l' e' b').1 else nI (stA R n' l' e' b').2) → wX5_stream (PQ r) M (nI n') (nI l') (nI e') (nI b') w := by
          intro r hr2
          unfold wX5_stream
          refine m_isStream (fun _ => o_t1 (m_in32 1 99 rfl rfl (zt2 hb (m_in32 0 1 rfl rfl (zt1 hw (m_streams hR hr ⟨hn1, hn2⟩ hl2 ⟨hb1, hb2⟩ he ?_)))))) (fun q => absurd hp q)
          by_cases h0 : w = 0
          · rw [if_pos h0] at hr2
            exact br_nt h0 ⟨hr2, h.stops _⟩
          · rw [if_neg h0] at hr2
            exact br_nf h0 ⟨by rw [hr2, mset_ss], h.stops _⟩
        unfold wX4_stream_52
        by_cases h1 : w = 1
        · refine br_nt h1 (s_streamed hR hc ⟨hn1, hn2⟩ hl2 ⟨hb1, hb2⟩ he (md _ ?_))
          rw [h1]
        · have h0 : w = 0 := by
            obtain ⟨k, hk, rfl⟩ := pl_of (L := 1) (by omega) hw
            have : k = 0 ∨ k = 1 := by omega
            rcases this with rfl | rfl
            · rfl
            · exact absurd rfl h1
          refine br_nf h1 (s_streamed hR hc ⟨hn1, hn2⟩ hl2 ⟨hb1, hb2⟩ he (md _ ?_))
          rw [h0]
      · refine zf1 hw ?_
        unfold wX5_stream
        exact m_isStream (fun _ => o_t1 (m_in32 1 99 rfl rfl (zt2 hb (m_in32 0 1 rfl rfl (zf1 hw ⟨rfl, h⟩))))) (fun q => absurd hp q)
    · refine zf2 hb ?_
      unfold wX5_stream
      exact m_isStream (fun _ => o_t1 (m_in32 1 99 rfl rfl (zf2 hb ⟨rfl, h⟩))) (fun q => absurd hp q)
  · unfold wX5_stream
    exact m_isStream (fun q => absurd q hp) (fun _ => o_t0 ⟨rfl, h⟩)
