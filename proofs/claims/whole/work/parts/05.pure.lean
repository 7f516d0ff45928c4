/-! pure rows: updates, painted rows, counts, sums; the memory as one value -/
def zI (b : Bool) : Int32 := if b then 1 else 0
def xu {α : Type} (f : Nat → α) (k : Nat) (x : α) : Nat → α := fun j => if j = k then x else f j
def xp {α : Type} (f : Nat → α) (a b : Nat) (x : α) : Nat → α := fun k => if a ≤ k ∧ k < b then x else f k
theorem xu_s {α : Type} {f : Nat → α} {k : Nat} {x : α} : xu f k x k = x := if_pos rfl
theorem xu_n {α : Type} {f : Nat → α} {k j : Nat} {x : α} (h : j ≠ k) : xu f k x j = f j := if_neg h
theorem xu_upd {f : Nat → Int32} {k : Nat} {x : Int32} : upd f k x = xu f k x := rfl
theorem xu_nI {g : Nat → Nat} {k x : Nat} : upd (fun i => nI (g i)) k (nI x) = fun i => nI (xu g k x i) := by
  funext j; unfold upd xu; split <;> rfl
theorem xp_in {α : Type} {f : Nat → α} {a b k : Nat} {x : α} (h1 : a ≤ k) (h2 : k < b) : xp f a b x k = x := if_pos ⟨h1, h2⟩
theorem xp_out {α : Type} {f : Nat → α} {a b k : Nat} {x : α} (h : ¬ (a ≤ k ∧ k < b)) : xp f a b x k = f k := if_neg h
theorem xp_0 {α : Type} (f : Nat → α) (a : Nat) (x : α) : xp f a a x = f := by
  funext k; exact xp_out (by omega)
theorem xp_s {α : Type} {f : Nat → α} {a i : Nat} {x : α} (h : a ≤ i) : xu (xp f a i x) i x = xp f a (i + 1) x := by
  funext k
  by_cases hk : k = i
  · subst hk; rw [xu_s, xp_in h (by omega)]
  · rw [xu_n hk]
    by_cases h1 : a ≤ k ∧ k < i
    · rw [xp_in h1.1 h1.2, xp_in h1.1 (by omega)]
    · rw [xp_out h1, xp_out (by omega)]
/-- how many places below n have P -/
def xc (P : Nat → Bool) : Nat → Nat
  | 0 => 0
  | n + 1 => xc P n + if P n then 1 else 0
/-- the sum of f below n -/
def xs (f : Nat → Nat) : Nat → Nat
  | 0 => 0
  | n + 1 => xs f n + f n
theorem xc_le (P : Nat → Bool) (n : Nat) : xc P n ≤ n := by
  induction n with
  | zero => exact Nat.le_refl _
  | succ n ih => unfold xc; split <;> omega
theorem xc_ext {P R : Nat → Bool} {n : Nat} (h : ∀ k, k < n → P k = R k) : xc P n = xc R n := by
  induction n with
  | zero => rfl
  | succ n ih => unfold xc; rw [ih (fun k hk => h k (by omega)), h n (by omega)]
/-- one place more -/
theorem xc_on {P R : Nat → Bool} {n s : Nat} (hs : s < n) (h : ∀ k, k < n → k ≠ s → P k = R k) (h0 : P s = false) (h1 : R s = true) : xc R n = xc P n + 1 := by
  induction n with
  | zero => omega
  | succ n ih =>
    unfold xc
    by_cases hn : s = n
    · subst hn
      rw [xc_ext (P := R) (R := P) (fun k hk => (h k (by omega) (by omega)).symm), h0, h1]
      simp
    · rw [ih (by omega) (fun k hk => h k (by omega)), h n (by omega) (fun e => hn e.symm)]
      omega
theorem xs_ext {f g : Nat → Nat} {n : Nat} (h : ∀ k, k < n → f k = g k) : xs f n = xs g n := by
  induction n with
  | zero => rfl
  | succ n ih => unfold xs; rw [ih (fun k hk => h k (by omega)), h n (by omega)]
/-- the first summand taken out -/
theorem xs_0 (f : Nat → Nat) (n : Nat) : xs f (n + 1) = f 0 + xs (fun i => f (i + 1)) n := by
  induction n with
  | zero => simp [xs]
  | succ n ih => rw [xs, ih, xs]; omega
theorem xs_ge {f : Nat → Nat} {n c : Nat} (h : ∀ k, k < n → c ≤ f k) : c * n ≤ xs f n := by
  induction n with
  | zero => simp
  | succ n ih =>
    have h1 := ih (fun k hk => h k (by omega))
    have h2 := h n (by omega)
    rw [xs, Nat.mul_succ]; omega
theorem xs_le {f : Nat → Nat} {n k : Nat} (h : k < n) : f k ≤ xs f n := by
  induction n with
  | zero => omega
  | succ n ih =>
    rw [xs]
    by_cases hk : k = n
    · subst hk; omega
    · have := ih (by omega); omega
theorem xs_mul (f : Nat → Nat) (c n : Nat) : xs (fun i => c * f i) n = c * xs f n := by
  induction n with
  | zero => rfl
  | succ n ih => rw [xs, ih, xs, Nat.mul_add]
/-! the memory: bytes, shadow, owner, size of a block at its beginning, how many wait, the queue -/
abbrev xMem : Type := (Nat → Int32) × (Nat → Int32) × (Nat → Nat) × (Nat → Nat) × Nat × (Nat → Nat)
abbrev mHp (M : xMem) : Nat → Int32 := M.1
abbrev mSh (M : xMem) : Nat → Int32 := M.2.1
abbrev mOw (M : xMem) : Nat → Nat := M.2.2.1
abbrev mSz (M : xMem) : Nat → Nat := M.2.2.2.1
abbrev mQn (M : xMem) : Nat := M.2.2.2.2.1
abbrev mQf (M : xMem) : Nat → Nat := M.2.2.2.2.2
/-- is a block of owner w -/
abbrev mIs (M : xMem) (w : Nat) : Nat → Bool := fun s => decide (0 < mSz M s ∧ mOw M s = w)
/-- the cells in the queue -/
abbrev mSum (M : xMem) : Nat := xs (fun i => mSz M (mQf M i)) (mQn M)
/-- what holds of the memory; B bounds the queue's cells -/
def mOk (B : Nat) (M : xMem) : Prop :=
  (∀ s, 0 < mSz M s → 3 ≤ mSz M s ∧ s + mSz M s ≤ 64 ∧ (mOw M s = 1 ∨ mOw M s = 2) ∧ ∀ k, s ≤ k → k < s + mSz M s → mOw M k = mOw M s) ∧
  (∀ k, k < 64 → mOw M k ≠ 0 → ∃ s, 0 < mSz M s ∧ s ≤ k ∧ k < s + mSz M s) ∧
  (∀ s t, 0 < mSz M s → 0 < mSz M t → s < t → s + mSz M s ≤ t) ∧
  (∀ i, i < mQn M → 0 < mSz M (mQf M i) ∧ mOw M (mQf M i) = 2) ∧
  (∀ i j, i < mQn M → j < mQn M → i ≠ j → mQf M i ≠ mQf M j) ∧
  xc (mIs M 2) 64 = mQn M ∧ mSum M ≤ B
theorem mOk_qn {B : Nat} {M : xMem} (h : mOk B M) : 3 * mQn M ≤ B := by
  obtain ⟨h1, -, -, h4, -, -, h7⟩ := h
  exact Nat.le_trans (xs_ge (fun k hk => (h1 _ (h4 k hk).1).1)) h7
theorem mOk_mono {B C : Nat} {M : xMem} (h : mOk B M) (hBC : mSum M ≤ C) : mOk C M := by
  obtain ⟨h1, h2, h3, h4, h5, h6, h7⟩ := h
  exact ⟨h1, h2, h3, h4, h5, h6, hBC⟩
/-- the memory when a run begins -/
def mNew (M : xMem) : xMem := (xp (mHp M) 0 512 0, xp (mSh M) 0 64 (-3), xp (mOw M) 0 64 0, xp (mSz M) 0 64 0, 0, mQf M)
/-- no size beyond the row: so that a block's beginning lies within it -/
def mZ (M : xMem) : Prop := ∀ s, 64 ≤ s → mSz M s = 0
theorem mNew_ok {M : xMem} (hz : mZ M) : mOk 20 (mNew M) := by
  have h0 : ∀ s, mSz (mNew M) s = 0 := by
    intro s
    by_cases h : s < 64
    · exact xp_in (Nat.zero_le _) h
    · show xp (mSz M) 0 64 0 s = 0
      rw [xp_out (by omega)]; exact hz s (by omega)
  have hw : ∀ k, k < 64 → mOw (mNew M) k = 0 := fun k hk => xp_in (Nat.zero_le _) hk
  refine ⟨fun s h => ?_, fun k hk h => absurd (hw k hk) h, fun s t h => ?_, fun i h => absurd h (Nat.not_lt_zero _), fun i j h => absurd h (Nat.not_lt_zero _), ?_, Nat.zero_le _⟩
  · rw [h0] at h; omega
  · rw [h0] at h; omega
  · rw [xc_ext (R := fun _ => false) (fun k _ => by simp [mIs, h0])]; show xc (fun _ => false) 64 = 0; decide
/-- the oldest block leaves the queue -/
def mRel (M : xMem) : xMem :=
  let s := mQf M 0
  (mHp M, xp (mSh M) s (s + mSz M s) (-3), xp (mOw M) s (s + mSz M s) 0, xu (mSz M) s 0, mQn M - 1, fun i => if i < mQn M - 1 then mQf M (i + 1) else mQf M i)
theorem mRel_sum {B : Nat} {M : xMem} (h : mOk B M) (hq : 0 < mQn M) : mSum M = mSz M (mQf M 0) + mSum (mRel M) := by
  obtain ⟨h1, h2, h3, h4, h5, h6, h7⟩ := h
  obtain ⟨n, hn⟩ : ∃ n, mQn M = n + 1 := ⟨mQn M - 1, by omega⟩
  show xs (fun i => mSz M (mQf M i)) (mQn M) = _ + xs (fun i => mSz (mRel M) (mQf (mRel M) i)) (mQn M - 1)
  rw [hn, xs_0, show n + 1 - 1 = n by omega]
  congr 1
  refine xs_ext (fun k hk => ?_)
  show mSz M (mQf M (k + 1)) = xu (mSz M) (mQf M 0) 0 (if k < mQn M - 1 then mQf M (k + 1) else mQf M k)
  rw [if_pos (by omega), xu_n (h5 (k + 1) 0 (by omega) (by omega) (by omega))]
theorem mRel_ok {B : Nat} {M : xMem} (h : mOk B M) (hq : 0 < mQn M) : mOk B (mRel M) := by
  have hsum := mRel_sum h hq
  obtain ⟨h1, h2, h3, h4, h5, h6, h7⟩ := id h
  have hq0 := h4 0 hq
  have hs := h1 _ hq0.1
  generalize hS : mQf M 0 = s at hq0 hs hsum
  have eSz : mSz (mRel M) = xu (mSz M) s 0 := by rw [← hS]; rfl
  have eOw : mOw (mRel M) = xp (mOw M) s (s + mSz M s) 0 := by rw [← hS]; rfl
  have eQn : mQn (mRel M) = mQn M - 1 := rfl
  have eQf : ∀ i, i < mQn M - 1 → mQf (mRel M) i = mQf M (i + 1) := fun i hi => if_pos hi
  have hne : ∀ t, 0 < mSz (mRel M) t → t ≠ s ∧ mSz (mRel M) t = mSz M t ∧ 0 < mSz M t := by
    intro t ht
    rw [eSz] at ht ⊢
    by_cases e : t = s
    · subst e; rw [xu_s] at ht; omega
    · rw [xu_n e] at ht ⊢; exact ⟨e, rfl, ht⟩
  -- other blocks keep their owner
  have hok : ∀ t k, t ≠ s → 0 < mSz M t → t ≤ k → k < t + mSz M t → mOw (mRel M) k = mOw M k := by
    intro t k hts ht h4' h5'
    rw [eOw, xp_out]
    intro hk
    rcases Nat.lt_or_gt_of_ne hts with g | g
    · have := h3 t s ht hq0.1 g; omega
    · have := h3 s t hq0.1 ht g; omega
  refine ⟨fun t ht => ?_, fun k hk hw => ?_, fun t u ht hu hlt => ?_, fun i hi => ?_, fun i j hi hj hij => ?_, ?_, by omega⟩
  · obtain ⟨hts, e, ht'⟩ := hne t ht
    obtain ⟨g1, g2, g3, g4⟩ := h1 t ht'
    rw [e, hok t t hts ht' (Nat.le_refl _) (by omega)]
    exact ⟨g1, g2, g3, fun k hk1 hk2 => by rw [hok t k hts ht' hk1 hk2]; exact g4 k hk1 hk2⟩
  · rw [eOw] at hw
    by_cases hin : s ≤ k ∧ k < s + mSz M s
    · rw [xp_in hin.1 hin.2] at hw; exact absurd rfl hw
    · rw [xp_out hin] at hw
      obtain ⟨t, ht, g1, g2⟩ := h2 k hk hw
      have hts : t ≠ s := fun e => hin (by rw [← e]; exact ⟨g1, g2⟩)
      exact ⟨t, by rw [eSz, xu_n hts]; exact ⟨ht, g1, g2⟩⟩
  · obtain ⟨hts, e, ht'⟩ := hne t ht
    obtain ⟨hus, e', hu'⟩ := hne u hu
    rw [e]; exact h3 t u ht' hu' hlt
  · rw [eQn] at hi
    rw [eQf i hi]
    have g := h4 (i + 1) (by omega)
    have gs : mQf M (i + 1) ≠ s := by rw [← hS]; exact h5 (i + 1) 0 (by omega) hq (by omega)
    have := (h1 _ g.1).1
    rw [eSz, xu_n gs, hok _ _ gs g.1 (Nat.le_refl _) (by omega)]
    exact g
  · rw [eQn] at hi hj
    rw [eQf i hi, eQf j hj]
    exact h5 (i + 1) (j + 1) (by omega) (by omega) (by omega)
  · have := xc_on (P := mIs (mRel M) 2) (R := mIs M 2) (n := 64) (s := s) (by omega) (fun k hk hks => ?_) ?_ ?_
    · rw [eQn]; omega
    · simp only [mIs, eSz, xu_n hks]
      by_cases hz : 0 < mSz M k
      · have := (h1 k hz).1
        rw [hok k k hks hz (Nat.le_refl _) (by omega)]
      · simp [hz]
    · simp [mIs, eSz, xu_s]
    · simp [mIs, hq0.1, hq0.2]
theorem mRel_z {M : xMem} (hz : mZ M) : mZ (mRel M) := by
  intro t ht
  show xu (mSz M) (mQf M 0) 0 t = 0
  by_cases e : t = mQf M 0
  · rw [e, xu_s]
  · rw [xu_n e]; exact hz t ht
theorem mRel_live {B : Nat} {M : xMem} (h : mOk B M) (hq : 0 < mQn M) : xc (mIs (mRel M) 1) 64 = xc (mIs M 1) 64 := by
  obtain ⟨h1, h2, h3, h4, h5, h6, h7⟩ := id h
  have hq0 := h4 0 hq
  refine xc_ext (fun k hk => ?_)
  have eSz : mSz (mRel M) = xu (mSz M) (mQf M 0) 0 := rfl
  have eOw : mOw (mRel M) = xp (mOw M) (mQf M 0) (mQf M 0 + mSz M (mQf M 0)) 0 := rfl
  simp only [mIs, eSz, eOw]
  by_cases e : k = mQf M 0
  · rw [e, xu_s]; simp [hq0.2]
  · rw [xu_n e]
    by_cases hz : 0 < mSz M k
    · rw [xp_out]
      intro hc
      rcases Nat.lt_or_gt_of_ne e with g | g
      · have := h3 k _ hz hq0.1 g; have := (h1 k hz).1; omega
      · have := h3 _ k hq0.1 hz g; omega
    · simp [hz]
