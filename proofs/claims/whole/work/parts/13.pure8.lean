/-! the memory as the program keeps it -/
theorem mNew_is {M : xMem} (hz : mZ M) (w : Nat) : xp (mIs M w) 0 64 false = mIs (mNew M) w := by
  funext k
  have e : mSz (mNew M) k = 0 := by
    show xp (mSz M) 0 64 0 k = 0
    by_cases h : k < 64
    · exact xp_in (Nat.zero_le _) h
    · rw [xp_out (by omega)]; exact hz k (by omega)
  have e2 : mIs (mNew M) w k = false := by simp only [mIs, e]; simp
  rw [e2]
  by_cases h : k < 64
  · exact xp_in (Nat.zero_le _) h
  · rw [xp_out (by omega)]; simp only [mIs, hz k (by omega)]; simp
theorem mNew_live {M : xMem} (hz : mZ M) : xc (mIs (mNew M) 1) 64 = 0 := by
  rw [← mNew_is hz, xc_ext (R := fun _ => false) (fun k hk => xp_in (Nat.zero_le _) hk)]; decide
theorem mRel_isf {B : Nat} {M : xMem} (h : mOk B M) (hq : 0 < mQn M) : xu (mIs M 2) (mQf M 0) false = mIs (mRel M) 2 := by
  funext k
  by_cases e : k = mQf M 0
  · rw [e, xu_s, mRel_is0]
  · rw [xu_n e, mRel_is h hq 2 k e]
theorem mRel_su {B : Nat} {M : xMem} (h : mOk B M) (hq : 0 < mQn M) : mSum M - mSz M (mQf M 0) = mSum (mRel M) := by
  have := mRel_sum h hq
  omega
theorem mPut_isf {B : Nat} {M : xMem} {s b n : Nat} (h : mOk B M) (hn : 1 ≤ b) (hf : ∀ k, s ≤ k → k < s + b + 2 → mOw M k = 0) : mIs M 2 = mIs (mPut M s b n) 2 := by
  funext k
  by_cases e : k = s
  · rw [e, mPut_is1 hn, mPut_is0 h (need := b + 2) (by omega) hf]; rfl
  · exact (mPut_is h hn hf 2 k e).symm
theorem mPut_su {B : Nat} {M : xMem} {s b n : Nat} (h : mOk B M) (hf : ∀ k, s ≤ k → k < s + b + 2 → mOw M k = 0) : mSum M = mSum (mPut M s b n) := by
  refine xs_ext (fun k hk => ?_)
  show mSz M (mQf M k) = xu (mSz M) s (b + 2) (mQf M k)
  rw [xu_n]
  intro e
  have h4 := h.2.2.2.1 k hk
  have := hf s (Nat.le_refl _) (by omega)
  rw [e] at h4; omega
theorem mFre_isf {B : Nat} {M : xMem} {s : Nat} (h : mOk B M) (hs : 0 < mSz M s) : xu (mIs M 2) s true = mIs (mFre M s) 2 := by
  funext k
  by_cases e : k = s
  · rw [e, xu_s, mFre_is1 hs]; rfl
  · rw [xu_n e, mFre_is h hs 2 k e]
theorem mFre_lv {B : Nat} {M : xMem} {s : Nat} (h : mOk B M) (hs : 0 < mSz M s) (hw : mOw M s = 1) : xc (mIs M 1) 64 - 1 = xc (mIs (mFre M s) 1) 64 := by
  have := mFre_live h hs hw
  omega
/-- may x be freed -/
def mMf (M : xMem) (x : Int32) : Bool := decide (x = 0) || mBl M x
def mFx (M : xMem) (n : Nat) : xMem := if n = 0 then M else mFr M (n / 8 - 1)
/-! the least gap by a walk over the blocks -/
def mGw (M : xMem) (n z g : Nat) : Prop := z ≤ 64 ∧ g ≤ z ∧ z - g < n ∧ (∀ k, g ≤ k → k < z → mOw M k = 0) ∧ (∀ s, 0 < mSz M s → s < z → s + mSz M s ≤ z) ∧ ∀ t, t < g → ∃ k, k < n ∧ mOw M (t + k) ≠ 0
theorem mGw_0 {M : xMem} {n : Nat} (h : 1 ≤ n) : mGw M n 0 0 := ⟨by omega, by omega, by omega, fun k _ h2 => by omega, fun s _ h2 => by omega, fun t ht => by omega⟩
theorem mGw_b {B : Nat} {M : xMem} {n z g : Nat} (hm : mOk B M) (h : mGw M n z g) (hz : 0 < mSz M z) : mGw M n (z + mSz M z) (z + mSz M z) := by
  obtain ⟨h1, h2, h3, h4, h5, h6⟩ := h
  obtain ⟨q1, q2, q3, q4⟩ := hm.1 z hz
  refine ⟨q2, Nat.le_refl _, by omega, fun k _ _ => by omega, fun s hs hlt => ?_, fun t ht => ?_⟩
  · rcases Nat.lt_trichotomy s z with e | e | e
    · have := h5 s hs e; omega
    · subst e; omega
    · have := hm.2.2.1 z s hz hs e; omega
  · by_cases c : t < g
    · exact h6 t c
    · by_cases c2 : t ≤ z
      · refine ⟨z - t, by omega, ?_⟩
        rw [show t + (z - t) = z by omega]; omega
      · refine ⟨0, by omega, ?_⟩
        rw [Nat.add_zero, q4 t (by omega) ht]; omega
theorem mGw_w {B : Nat} {M : xMem} {n z g : Nat} (hm : mOk B M) (h : mGw M n z g) (hz : mSz M z = 0) (hlt : z < 64) : mOw M z = 0 := by
  obtain ⟨h1, h2, h3, h4, h5, h6⟩ := h
  apply Classical.byContradiction
  intro hw
  obtain ⟨s, hs, g1, g2⟩ := hm.2.1 z hlt hw
  by_cases e : s = z
  · subst e; omega
  · have := h5 s hs (by omega); omega
theorem mGw_s {B : Nat} {M : xMem} {n z g : Nat} (hm : mOk B M) (h : mGw M n z g) (hz : mSz M z = 0) (hlt : z < 64) (hn : z + 1 - g < n) : mGw M n (z + 1) g := by
  have hw := mGw_w hm h hz hlt
  obtain ⟨h1, h2, h3, h4, h5, h6⟩ := h
  refine ⟨by omega, by omega, hn, fun k k1 k2 => ?_, fun s hs hs2 => ?_, h6⟩
  · by_cases e : k = z
    · subst e; exact hw
    · exact h4 k k1 (by omega)
  · by_cases e : s = z
    · subst e; omega
    · have := h5 s hs (by omega); omega
theorem mGw_r {B : Nat} {M : xMem} {n z g : Nat} (hm : mOk B M) (h : mGw M n z g) (hz : mSz M z = 0) (hlt : z < 64) (hn : n ≤ z + 1 - g) : mGap M n = some g := by
  have hw := mGw_w hm h hz hlt
  obtain ⟨h1, h2, h3, h4, h5, h6⟩ := h
  refine mGap_s (by omega) (fun k hk => ?_) h6
  by_cases e : g + k = z
  · rw [e]; exact hw
  · exact h4 (g + k) (by omega) (by omega)
theorem mGw_n {M : xMem} {n z g : Nat} (h : mGw M n z g) (hz : 64 ≤ z) : mGap M n = none := by
  obtain ⟨h1, h2, h3, h4, h5, h6⟩ := h
  refine mGap_n (fun t ht => ?_)
  exact h6 t (by omega)
theorem mTc_m1 {x : Int32} {j : Nat} (h : x = -1) : mTc x j = 1 := by
  subst h
  exact mTc_1 (by decide) (Or.inl (by decide)) (by decide) (by decide)
theorem mTc_q {x : Int32} {j : Nat} (hj : j < 2 ^ 31) (h : ¬ x ≤ nI j) : mTc x j = 0 := by
  refine mTc_p (fun g => h ?_) h
  rw [Int32.le_iff_toInt_le, show (0 : Int32).toInt = 0 by decide] at g
  rw [Int32.le_iff_toInt_le, xI_toInt hj]; omega
theorem x_t30 {x : Int32} (h3 : ¬ x = -3) (h2 : ¬ x = -2) (h1 : ¬ x = -1) (h0 : ¬ x = 0) : x.toInt < -3 ∨ 0 < x.toInt := by
  apply Classical.byContradiction
  intro hc
  have e : x.toInt = -3 ∨ x.toInt = -2 ∨ x.toInt = -1 ∨ x.toInt = 0 := by omega
  rcases e with e | e | e | e
  · exact h3 (Int32.toInt_inj.mp (e.trans (by decide)))
  · exact h2 (Int32.toInt_inj.mp (e.trans (by decide)))
  · exact h1 (Int32.toInt_inj.mp (e.trans (by decide)))
  · exact h0 (Int32.toInt_inj.mp (e.trans (by decide)))
theorem oI_m1 {o : Option Nat} (h : oI o = -1) (hb : ∀ g, o = some g → g < 2 ^ 31) : o = none := by
  cases o with
  | none => rfl
  | some g =>
    have h' : nI g = -1 := h
    have := congrArg Int32.toInt h'
    rw [xI_toInt (hb g rfl), show (-1 : Int32).toInt = -1 by decide] at this
    omega
theorem oI_ne {o : Option Nat} (h : ¬ oI o = -1) : ∃ g, o = some g := by
  cases o with
  | none => exact absurd rfl h
  | some g => exact ⟨g, rfl⟩
