theorem xt_1 : Cond.laysStatic Bundle.tN "UNASSIGNED_STACK" Bundle.steD ∈ lw_tbl := by decide +kernel
theorem xt_2 : Cond.laysStatic Bundle.tN "SUPPRESSED_SENTINEL" Bundle.listD ∈ lw_tbl := by decide +kernel
theorem xt_3 : Cond.initialized Bundle.tN ∈ lw_tbl := by decide +kernel
theorem xt_4 : ∀ q ∈ xTx, Cond.stringRef R_S q.1 q.2 ∈ lw_tbl := by decide +kernel
theorem xt_5 : ∀ q ∈ xNp, Cond.not (.castable q.1 q.2) ∈ flatC (Jvm.Cond.and given_1 narrow_1) := by decide +kernel
def xD6 {α : Type} (a0 a1 a2 a3 a4 a5 : α) : Nat → α := fun c => match c with
  | 0 => a0
  | 1 => a1
  | 2 => a2
  | 3 => a3
  | 4 => a4
  | _ => a5
theorem x_Kn {s : State} {args : Array Value} {k0 : Cond} (hts : ∀ w ∈ k0 :: bw, w.before args s = true) : ∃ (D : va_G) (cI cZ cJ : ClassId), va_K D vwCl (xT cI cZ cJ) s := by
  have hb : ∀ w ∈ bw, w.before args s = true := fun w h => hts w (List.mem_cons_of_mem _ h)
  obtain ⟨c0, i0, g0⟩ := u_known hb i_Li (hb _ q_ib_Li)
  obtain ⟨c1, i1, g1⟩ := u_known hb i_Me (hb _ q_ib_Me)
  obtain ⟨c2, i2, g2⟩ := u_known hb i_Pr (hb _ q_ib_Pr)
  obtain ⟨c3, i3, g3⟩ := u_known hb i_Ru (hb _ q_ib_Ru)
  obtain ⟨c4, i4, g4⟩ := u_known hb i_S (hb _ q_ib_S)
  obtain ⟨c5, i5, g5⟩ := u_known hb i_Mo (hb _ q_ib_Mo)
  obtain ⟨cI, aI1, aI2⟩ := x_arr (hb _ q_ac_int)
  obtain ⟨cZ, aZ1, aZ2⟩ := x_arr (hb _ q_ac_boolean)
  obtain ⟨cJ, aJ1, aJ2⟩ := x_arr (hb _ q_ac_long)
  refine ⟨(xD6 c0 c1 c2 c3 c4 c5, xD6 i0 i1 i2 i3 i4 i5), cI, cZ, cJ, fun c q hq => ?_, fun k q hq => ?_⟩
  · match c, hq with
    | 0, hq => cases hq; exact g0
    | 1, hq => cases hq; exact g1
    | 2, hq => cases hq; exact g2
    | 3, hq => cases hq; exact g3
    | 4, hq => cases hq; exact g4
    | 5, hq => cases hq; exact g5
    | n + 6, hq => simp [vwCl] at hq
  · match k, hq with
    | 0, hq => cases hq; exact ⟨aI1, aI2⟩
    | 1, hq => cases hq; exact ⟨aZ1, aZ2⟩
    | 2, hq => cases hq; exact ⟨aJ1, aJ2⟩
    | n + 3, hq => simp [xT] at hq
