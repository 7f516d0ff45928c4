theorem mOk_z {B : Nat} {M : xMem} (h : mOk B M) : mZ M := by
  intro s hs
  by_cases h0 : 0 < mSz M s
  · have := h.1 s h0; omega
  · omega
theorem mRel_is {B : Nat} {M : xMem} (h : mOk B M) (hq : 0 < mQn M) (w k : Nat) (hk : k ≠ mQf M 0) : mIs (mRel M) w k = mIs M w k := by
  obtain ⟨h1, h2, h3, h4, h5, h6, h7⟩ := id h
  have hq0 := h4 0 hq
  have eSz : mSz (mRel M) = xu (mSz M) (mQf M 0) 0 := rfl
  have eOw : mOw (mRel M) = xp (mOw M) (mQf M 0) (mQf M 0 + mSz M (mQf M 0)) 0 := rfl
  simp only [mIs, eSz, eOw]
  rw [xu_n hk]
  by_cases hz : 0 < mSz M k
  · rw [xp_out]
    intro hc
    rcases Nat.lt_or_gt_of_ne hk with g | g
    · have := h3 k _ hz hq0.1 g; have := (h1 k hz).1; omega
    · have := h3 _ k hq0.1 hz g; omega
  · simp [hz]
theorem mRel_is0 {M : xMem} (w : Nat) : mIs (mRel M) w (mQf M 0) = false := by
  have eSz : mSz (mRel M) = xu (mSz M) (mQf M 0) 0 := rfl
  simp [mIs, eSz, xu_s]
/-! the least place -/
def xl (P : Nat → Bool) : Nat → Option Nat
  | 0 => none
  | n + 1 => match xl P n with
    | some s => some s
    | none => if P n then some n else none
theorem xl_none {P : Nat → Bool} {n : Nat} (h : ∀ t, t < n → P t = false) : xl P n = none := by
  induction n with
  | zero => rfl
  | succ n ih => rw [xl, ih (fun t ht => h t (by omega))]; simp [h n (by omega)]
theorem xl_some {P : Nat → Bool} {n s : Nat} (hs : s < n) (h1 : P s = true) (h : ∀ t, t < s → P t = false) : xl P n = some s := by
  induction n with
  | zero => omega
  | succ n ih =>
    rw [xl]
    by_cases e : s = n
    · subst e; rw [xl_none h]; simp [h1]
    · rw [ih (by omega)]
theorem xl_inv {P : Nat → Bool} {n s : Nat} (h : xl P n = some s) : s < n ∧ P s = true ∧ ∀ t, t < s → P t = false := by
  induction n with
  | zero => rw [xl] at h; cases h
  | succ n ih =>
    rw [xl] at h
    cases e : xl P n with
    | some t =>
      rw [e] at h; cases h
      have := ih e
      exact ⟨by omega, this.2⟩
    | none =>
      rw [e] at h
      simp only at h
      split at h
      · rename_i hp
        cases h
        refine ⟨by omega, hp, fun t ht => ?_⟩
        cases ht' : P t with
        | false => rfl
        | true =>
          exfalso
          have hx : ∀ (m : Nat), xl P m = none → ∀ t, t < m → P t = false := by
            intro m
            induction m with
            | zero => intro _ t ht; omega
            | succ m ihm =>
              intro hm t ht
              rw [xl] at hm
              cases e2 : xl P m with
              | some z => rw [e2] at hm; cases hm
              | none =>
                rw [e2] at hm
                simp only at hm
                split at hm
                · cases hm
                · rename_i hp'
                  by_cases em : t = m
                  · subst em; simpa using hp'
                  · exact ihm e2 t (by omega)
          rw [hx _ e t ht] at ht'; cases ht'
      · cases h
theorem xl_inv0 {P : Nat → Bool} {n : Nat} (h : xl P n = none) : ∀ t, t < n → P t = false := by
  induction n with
  | zero => intro t ht; omega
  | succ n ih =>
    intro t ht
    rw [xl] at h
    cases e : xl P n with
    | some z => rw [e] at h; cases h
    | none =>
      rw [e] at h
      simp only at h
      split at h
      · cases h
      · rename_i hp
        by_cases em : t = n
        · subst em; simpa using hp
        · exact ih e t (by omega)
/-- need cells are free from s on -/
abbrev mFits (M : xMem) (need s : Nat) : Bool := decide (s + need ≤ 64 ∧ ∀ k, k < need → mOw M (s + k) = 0)
theorem mGap_ex (M : xMem) (need : Nat) : ∃ o : Option Nat, o = xl (mFits M need) 65 := ⟨_, rfl⟩
noncomputable def mGap (M : xMem) (need : Nat) : Option Nat := Classical.choose (mGap_ex M need)
theorem mGap_def (M : xMem) (need : Nat) : mGap M need = xl (mFits M need) 65 := Classical.choose_spec (mGap_ex M need)
def oI (o : Option Nat) : Int32 := match o with
  | some s => nI s
  | none => -1
theorem mGap_s {M : xMem} {need s : Nat} (h1 : s + need ≤ 64) (h2 : ∀ k, k < need → mOw M (s + k) = 0) (h3 : ∀ t, t < s → ∃ k, k < need ∧ mOw M (t + k) ≠ 0) : mGap M need = some s := by
  rw [mGap_def]
  refine xl_some (by omega) (by simp only [mFits, decide_eq_true_eq]; exact ⟨h1, h2⟩) (fun t ht => ?_)
  simp only [mFits, decide_eq_false_iff_not]
  intro hc
  obtain ⟨k, hk, hw⟩ := h3 t ht
  exact hw (hc.2 k hk)
theorem mGap_n {M : xMem} {need : Nat} (h3 : ∀ t, t + need ≤ 64 → ∃ k, k < need ∧ mOw M (t + k) ≠ 0) : mGap M need = none := by
  rw [mGap_def]
  refine xl_none (fun t ht => ?_)
  simp only [mFits, decide_eq_false_iff_not]
  intro hc
  obtain ⟨k, hk, hw⟩ := h3 t hc.1
  exact hw (hc.2 k hk)
theorem mGap_inv {M : xMem} {need s : Nat} (h : mGap M need = some s) : s + need ≤ 64 ∧ ∀ k, s ≤ k → k < s + need → mOw M k = 0 := by
  rw [mGap_def] at h
  have := (xl_inv h).2.1
  simp only [mFits, decide_eq_true_eq] at this
  exact ⟨this.1, fun k h1 h2 => by have := this.2 (k - s) (by omega); rwa [show s + (k - s) = k by omega] at this⟩
/-- a new block of b + 2 cells at s, for n bytes -/
def mPut (M : xMem) (s b n : Nat) : xMem :=
  (xp (mHp M) (8 * s + 8) (8 * s + 8 + 8 * b) 0,
   xu (xu (xu (xp (mSh M) s (s + b + 2) 0) s (-1)) (s + b) (nI (n % 8))) (s + b + 1) (-1),
   xp (mOw M) s (s + b + 2) 1, xu (mSz M) s (b + 2), mQn M, mQf M)
theorem mPut_sh {f : Nat → Int32} {s b : Nat} {x : Int32} (h : 1 ≤ b) : xu (xu (xp (xu f s (-1)) (s + 1) (s + b + 1) 0) (s + b) x) (s + b + 1) (-1) = xu (xu (xu (xp f s (s + b + 2) 0) s (-1)) (s + b) x) (s + b + 1) (-1) := by
  funext k
  simp only [xu, xp]
  by_cases c1 : k = s + b + 1
  · simp [c1]
  · by_cases c2 : k = s + b
    · rw [if_neg c1, if_pos c2, if_neg c1, if_pos c2]
    · rw [if_neg c1, if_neg c2, if_neg c1, if_neg c2]
      by_cases c3 : k = s
      · rw [if_neg (by omega), if_pos c3, if_pos c3]
      · rw [if_neg c3, if_neg c3]
        by_cases c4 : s + 1 ≤ k ∧ k < s + b + 1
        · rw [if_pos c4, if_pos (by omega)]
        · rw [if_neg c4, if_neg (by omega)]
theorem mPut_free {B : Nat} {M : xMem} {s need : Nat} (h : mOk B M) (hn : 3 ≤ need) (hf : ∀ k, s ≤ k → k < s + need → mOw M k = 0) {t : Nat} (ht : 0 < mSz M t) : t + mSz M t ≤ s ∨ s + need ≤ t := by
  obtain ⟨h1, -, -, -, -, -, -⟩ := h
  obtain ⟨g1, g2, g3, g4⟩ := h1 t ht
  by_cases c : t + mSz M t ≤ s
  · exact Or.inl c
  · by_cases c2 : s + need ≤ t
    · exact Or.inr c2
    · exfalso
      by_cases c3 : t ≤ s
      · have e1 := g4 s c3 (by omega)
        have e2 := hf s (Nat.le_refl _) (by omega)
        omega
      · have e2 := hf t (by omega) (by omega)
        omega
theorem mPut_is {B : Nat} {M : xMem} {s b n : Nat} (h : mOk B M) (hn : 1 ≤ b) (hf : ∀ k, s ≤ k → k < s + b + 2 → mOw M k = 0) (w k : Nat) (hk : k ≠ s) : mIs (mPut M s b n) w k = mIs M w k := by
  have eSz : mSz (mPut M s b n) = xu (mSz M) s (b + 2) := rfl
  have eOw : mOw (mPut M s b n) = xp (mOw M) s (s + b + 2) 1 := rfl
  simp only [mIs, eSz, eOw, xu_n hk]
  by_cases hz : 0 < mSz M k
  · have := mPut_free h (need := b + 2) (by omega) hf hz
    have := (h.1 k hz).1
    rw [xp_out (by omega)]
  · simp [hz]
theorem mPut_is0 {B : Nat} {M : xMem} {s need : Nat} (h : mOk B M) (hn : 3 ≤ need) (hf : ∀ k, s ≤ k → k < s + need → mOw M k = 0) (w : Nat) : mIs M w s = false := by
  have h0 := hf s (Nat.le_refl _) (by omega)
  simp only [mIs, decide_eq_false_iff_not]
  intro hc
  have := (h.1 s hc.1).2.2.1
  omega
theorem mPut_is1 {M : xMem} {s b n : Nat} (hn : 1 ≤ b) (w : Nat) : mIs (mPut M s b n) w s = decide (w = 1) := by
  have eSz : mSz (mPut M s b n) = xu (mSz M) s (b + 2) := rfl
  have eOw : mOw (mPut M s b n) = xp (mOw M) s (s + b + 2) 1 := rfl
  simp only [mIs, eSz, eOw, xu_s, xp_in (Nat.le_refl s) (show s < s + b + 2 by omega)]
  have : 0 < b + 2 := by omega
  simp [this, eq_comm]
theorem mPut_live {B : Nat} {M : xMem} {s b n : Nat} (h : mOk B M) (hn : 1 ≤ b) (hs : s + b + 2 ≤ 64) (hf : ∀ k, s ≤ k → k < s + b + 2 → mOw M k = 0) : xc (mIs (mPut M s b n) 1) 64 = xc (mIs M 1) 64 + 1 :=
  xc_on (s := s) (by omega) (fun k _ hk => (mPut_is h hn hf 1 k hk).symm) (mPut_is0 h (need := b + 2) (by omega) hf 1) (mPut_is1 hn 1)
theorem mPut_ok {B : Nat} {M : xMem} {s b n : Nat} (h : mOk B M) (hn : 1 ≤ b) (hs : s + b + 2 ≤ 64) (hf : ∀ k, s ≤ k → k < s + b + 2 → mOw M k = 0) : mOk B (mPut M s b n) := by
  have hfr := fun {t : Nat} (ht : 0 < mSz M t) => mPut_free h (need := b + 2) (by omega) hf ht
  have his := mPut_is (n := n) h hn hf 2
  have his0 := mPut_is0 h (need := b + 2) (by omega) hf 2
  obtain ⟨h1, h2, h3, h4, h5, h6, h7⟩ := id h
  have eSz : mSz (mPut M s b n) = xu (mSz M) s (b + 2) := rfl
  have eOw : mOw (mPut M s b n) = xp (mOw M) s (s + b + 2) 1 := rfl
  have eQn : mQn (mPut M s b n) = mQn M := rfl
  have eQf : mQf (mPut M s b n) = mQf M := rfl
  have hne : ∀ i, i < mQn M → mQf M i ≠ s := by
    intro i hi e
    have := h4 i hi
    rw [e] at this
    have := hf s (Nat.le_refl _) (by omega)
    omega
  refine ⟨fun t ht => ?_, fun k hk hw => ?_, fun t u ht hu hlt => ?_, fun i hi => ?_, fun i j hi hj hij => h5 i j hi hj hij, ?_, ?_⟩
  · rw [eSz] at ht ⊢
    by_cases e : t = s
    · subst e
      rw [xu_s, eOw, xp_in (Nat.le_refl _) (by omega)]
      exact ⟨by omega, hs, Or.inl rfl, fun k g1 g2 => xp_in g1 g2⟩
    · rw [xu_n e] at ht ⊢
      obtain ⟨g1, g2, g3, g4⟩ := h1 t ht
      have := hfr ht
      rw [eOw, xp_out (by omega)]
      exact ⟨g1, g2, g3, fun k k1 k2 => by rw [xp_out (by omega)]; exact g4 k k1 k2⟩
  · rw [eOw] at hw
    by_cases hin : s ≤ k ∧ k < s + b + 2
    · exact ⟨s, by rw [eSz, xu_s]; exact ⟨by omega, hin⟩⟩
    · rw [xp_out hin] at hw
      obtain ⟨t, ht, g1, g2⟩ := h2 k hk hw
      have : t ≠ s := by
        intro e; rw [e] at ht
        have a1 := hf s (Nat.le_refl _) (by omega)
        have a2 := (h1 s ht).2.2.1
        omega
      exact ⟨t, by rw [eSz, xu_n this]; exact ⟨ht, g1, g2⟩⟩
  · rw [eSz] at ht hu ⊢
    by_cases e : t = s
    · subst e
      rw [xu_s]
      rw [xu_n (by omega)] at hu
      have := hfr hu
      have := (h1 u hu).1
      omega
    · rw [xu_n e] at ht ⊢
      by_cases e2 : u = s
      · subst e2
        have := hfr ht
        omega
      · rw [xu_n e2] at hu; exact h3 t u ht hu hlt
  · rw [eQf, eSz, eOw, xu_n (hne i hi)]
    have g := h4 i hi
    have := hfr g.1
    have := (h1 _ g.1).1
    rw [xp_out (by omega)]; exact g
  · rw [eQn, ← h6]
    refine xc_ext (fun k hk => ?_)
    by_cases e : k = s
    · subst e; rw [mPut_is1 hn 2, his0]; rfl
    · exact his k e
  · show xs (fun i => xu (mSz M) s (b + 2) (mQf M i)) (mQn M) ≤ B
    rw [xs_ext (g := fun i => mSz M (mQf M i)) (fun k hk => xu_n (hne k hk))]
    exact h7
/-- a block goes into the queue -/
def mFre (M : xMem) (s : Nat) : xMem :=
  (mHp M, xp (mSh M) (s + 1) (s + mSz M s - 1) (-2), xp (mOw M) s (s + mSz M s) 2, mSz M, mQn M + 1, xu (mQf M) (mQn M) s)
theorem mFre_out {B : Nat} {M : xMem} {s : Nat} (h : mOk B M) (hs : 0 < mSz M s) {t k : Nat} (hts : t ≠ s) (ht : 0 < mSz M t) (h1 : t ≤ k) (h2 : k < t + mSz M t) : mOw (mFre M s) k = mOw M k := by
  show xp (mOw M) s (s + mSz M s) 2 k = _
  rw [xp_out]
  intro hc
  rcases Nat.lt_or_gt_of_ne hts with g | g
  · have := h.2.2.1 t s ht hs g; omega
  · have := h.2.2.1 s t hs ht g; omega
theorem mFre_is {B : Nat} {M : xMem} {s : Nat} (h : mOk B M) (hs : 0 < mSz M s) (w k : Nat) (hk : k ≠ s) : mIs (mFre M s) w k = mIs M w k := by
  have eSz : mSz (mFre M s) = mSz M := rfl
  simp only [mIs, eSz]
  by_cases hz : 0 < mSz M k
  · rw [mFre_out h hs hk hz (Nat.le_refl _) (by omega)]
  · simp [hz]
theorem mFre_is1 {M : xMem} {s : Nat} (hs : 0 < mSz M s) (w : Nat) : mIs (mFre M s) w s = decide (w = 2) := by
  have eSz : mSz (mFre M s) = mSz M := rfl
  have eOw : mOw (mFre M s) = xp (mOw M) s (s + mSz M s) 2 := rfl
  simp only [mIs, eSz, eOw, xp_in (Nat.le_refl s) (show s < s + mSz M s by omega)]
  simp [hs, eq_comm]
theorem mFre_live {B : Nat} {M : xMem} {s : Nat} (h : mOk B M) (hs : 0 < mSz M s) (hw : mOw M s = 1) : xc (mIs M 1) 64 = xc (mIs (mFre M s) 1) 64 + 1 :=
  xc_on (s := s) (by have := (h.1 s hs).2.1; omega) (fun k _ hk => mFre_is h hs 1 k hk) (mFre_is1 hs 1) (by simp [mIs, hs, hw])
theorem mFre_sum {M : xMem} {s : Nat} : mSum (mFre M s) = mSum M + mSz M s := by
  show xs (fun i => mSz M (xu (mQf M) (mQn M) s i)) (mQn M + 1) = _
  rw [xs, xu_s, xs_ext (g := fun i => mSz M (mQf M i)) (fun k hk => by rw [xu_n (by omega)])]
theorem mFre_ok {B : Nat} {M : xMem} {s : Nat} (h : mOk B M) (hs : 0 < mSz M s) (hw : mOw M s = 1) : mOk (B + 64) (mFre M s) := by
  have hsum := mFre_sum (M := M) (s := s)
  have hout := fun {t k : Nat} => mFre_out (t := t) (k := k) h hs
  have his := mFre_is h hs 2
  obtain ⟨h1, h2, h3, h4, h5, h6, h7⟩ := id h
  have hs1 := h1 s hs
  have eSz : mSz (mFre M s) = mSz M := rfl
  have eOw : mOw (mFre M s) = xp (mOw M) s (s + mSz M s) 2 := rfl
  have eQn : mQn (mFre M s) = mQn M + 1 := rfl
  have eQf : mQf (mFre M s) = xu (mQf M) (mQn M) s := rfl
  have hne : ∀ i, i < mQn M → mQf M i ≠ s := by
    intro i hi e
    have := (h4 i hi).2
    rw [e, hw] at this
    omega
  refine ⟨fun t ht => ?_, fun k hk hw' => ?_, fun t u ht hu hlt => h3 t u ht hu hlt, fun i hi => ?_, fun i j hi hj hij => ?_, ?_, by omega⟩
  · rw [eSz] at ht ⊢
    obtain ⟨g1, g2, g3, g4⟩ := h1 t ht
    by_cases e : t = s
    · subst e
      rw [eOw, xp_in (Nat.le_refl _) (by omega)]
      exact ⟨g1, g2, Or.inr rfl, fun k k1 k2 => xp_in k1 k2⟩
    · rw [hout e ht (Nat.le_refl _) (by omega)]
      exact ⟨g1, g2, g3, fun k k1 k2 => by rw [hout e ht k1 k2]; exact g4 k k1 k2⟩
  · rw [eSz]
    rw [eOw] at hw'
    by_cases hin : s ≤ k ∧ k < s + mSz M s
    · exact ⟨s, hs, hin.1, hin.2⟩
    · rw [xp_out hin] at hw'; exact h2 k hk hw'
  · rw [eQn] at hi
    rw [eSz, eQf]
    by_cases e : i = mQn M
    · subst e; rw [xu_s, eOw, xp_in (Nat.le_refl _) (by omega)]; exact ⟨hs, rfl⟩
    · have g := h4 i (by omega)
      rw [xu_n e, hout (hne i (by omega)) g.1 (Nat.le_refl _) (by omega)]; exact g
  · rw [eQn] at hi hj
    rw [eQf]
    by_cases e : i = mQn M
    · subst e; rw [xu_s, xu_n (by omega)]; exact fun x => hne j (by omega) x.symm
    · rw [xu_n e]
      by_cases e2 : j = mQn M
      · subst e2; rw [xu_s]; exact hne i (by omega)
      · rw [xu_n e2]; exact h5 i j (by omega) (by omega) hij
  · rw [eQn, ← h6]
    exact xc_on (s := s) (by omega) (fun k _ hk => (his k hk).symm) (by simp [mIs, hw]) (mFre_is1 hs 2)
/-- the queue shrinks until its cells are at most 20 -/
def mTrF : Nat → xMem → xMem
  | 0, M => M
  | f + 1, M => if mSum M ≤ 20 then M else mTrF f (mRel M)
def mTr (M : xMem) : xMem := mTrF (mQn M) M
theorem mTr_le {M : xMem} (h : mSum M ≤ 20) : mTr M = M := by
  unfold mTr
  cases mQn M with
  | zero => rfl
  | succ n => exact if_pos h
theorem mSum_pos {M : xMem} (h : 0 < mSum M) : 0 < mQn M := by
  apply Nat.pos_of_ne_zero
  intro e
  unfold mSum at h
  rw [e] at h
  exact absurd h (Nat.not_lt_zero _)
theorem mTr_gt {M : xMem} (h : 20 < mSum M) : mTr M = mTr (mRel M) := by
  have hq := mSum_pos (M := M) (by omega)
  unfold mTr
  have e : mQn (mRel M) = mQn M - 1 := rfl
  rw [e]
  obtain ⟨n, hn⟩ : ∃ n, mQn M = n + 1 := ⟨mQn M - 1, by omega⟩
  rw [hn]
  exact if_neg (by omega)
/-- blocks leave the queue until need cells are free, or none waits -/
noncomputable def mMkF (need : Nat) : Nat → xMem → xMem
  | 0, M => M
  | f + 1, M => match mGap M need with
    | some _ => M
    | none => mMkF need f (mRel M)
noncomputable def mMk (need : Nat) (M : xMem) : xMem := mMkF need (mQn M) M
theorem mMk_0 {need : Nat} {M : xMem} (h : mQn M = 0) : mMk need M = M := by
  unfold mMk; rw [h]; rfl
theorem mMk_s {need s : Nat} {M : xMem} (h : mGap M need = some s) : mMk need M = M := by
  unfold mMk
  cases mQn M with
  | zero => rfl
  | succ n => simp only [mMkF, h]
theorem mMk_n {need : Nat} {M : xMem} (h : mGap M need = none) (hq : 0 < mQn M) : mMk need M = mMk need (mRel M) := by
  unfold mMk
  have e : mQn (mRel M) = mQn M - 1 := rfl
  rw [e]
  obtain ⟨n, hn⟩ : ∃ n, mQn M = n + 1 := ⟨mQn M - 1, by omega⟩
  rw [hn]
  simp only [mMkF, h]
  rw [Nat.add_sub_cancel]
theorem mTr_ok {B : Nat} : ∀ {n : Nat} {M : xMem}, mQn M = n → mOk B M → mOk 20 (mTr M) := by
  intro n
  induction n with
  | zero =>
    intro M hn h
    have : mSum M = 0 := by unfold mSum; rw [hn]; rfl
    rw [mTr_le (by omega)]; exact mOk_mono h (by omega)
  | succ n ih =>
    intro M hn h
    by_cases c : mSum M ≤ 20
    · rw [mTr_le c]; exact mOk_mono h c
    · rw [mTr_gt (by omega)]
      exact ih (by show mQn M - 1 = n; omega) (mRel_ok h (by omega))
theorem mMk_ok {B need : Nat} : ∀ {n : Nat} {M : xMem}, mQn M = n → mOk B M → mOk B (mMk need M) := by
  intro n
  induction n with
  | zero => intro M hn h; rw [mMk_0 hn]; exact h
  | succ n ih =>
    intro M hn h
    cases c : mGap M need with
    | some s => rw [mMk_s c]; exact h
    | none =>
      rw [mMk_n c (by omega)]
      exact ih (by show mQn M - 1 = n; omega) (mRel_ok h (by omega))
/-- a block for a bytes: the memory behind it, and its address -/
noncomputable def mAl (M : xMem) (a : Int32) : xMem × Int32 :=
  if a < 1 ∨ 100 < a then (M, 0)
  else
    let n := a.toNatClampNeg
    let need := (n + 7) / 8 + 2
    match mGap (mMk need M) need with
    | some s => (mPut (mMk need M) s ((n + 7) / 8) n, nI (8 * s + 8))
    | none => (mMk need M, 0)
theorem mAl_ok {M : xMem} (a : Int32) (h : mOk 20 M) : mOk 20 (mAl M a).1 := by
  unfold mAl
  split
  · exact h
  · simp only
    have hk := mMk_ok (need := (a.toNatClampNeg + 7) / 8 + 2) rfl h
    rename_i hc
    have h1 : 1 ≤ a.toNatClampNeg := by
      have : ¬ a < 1 := fun x => hc (Or.inl x)
      rw [Int32.lt_iff_toInt_lt] at this
      have e : (1 : Int32).toInt = 1 := by decide
      rw [e] at this
      unfold Int32.toNatClampNeg
      omega
    split
    · rename_i s hs
      have := mGap_inv hs
      exact mPut_ok hk (by omega) this.1 this.2
    · exact hk
/-- a block is freed -/
def mFr (M : xMem) (s : Nat) : xMem := mTr (mFre M s)
theorem mFr_ok {M : xMem} {s : Nat} (h : mOk 20 M) (hs : 0 < mSz M s) (hw : mOw M s = 1) : mOk 20 (mFr M s) := mTr_ok rfl (mFre_ok h hs hw)
