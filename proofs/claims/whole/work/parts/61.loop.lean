set_option maxHeartbeats 8000000 in
set_option maxRecDepth 100000 in
theorem law_loop {p : Program} {l : Launch} {e : Env} {s : State} {m : MethodId} {below : List Frame} {meth : Method} {c : Code} {D : va_G} {A : Nat → Prop} {cI cZ cJ : ClassId} {ax ao : Nat} {ar ap am a : Nat → Nat} {b L0 : Nat} {xs : Nat → Int32} {nm : String} {k0 : Cond} (hh : xH p l s m #[Value.ref b] meth c D A cI cZ cJ b nm k0 L0 xs) (hAs : ∀ q, A q → s.heap.size ≤ q) : ∀ (K i cells slots : Nat), L0 - i = K → i ≤ L0 → cells + 2 * (L0 - i) ≤ 400000 → slots + 12 * (L0 - i) ≤ 6000000 → xG p l e s m #[Value.ref b] below meth c (lw_Z below #[Value.ref b] s) D A cI cZ cJ ax ao ar ap am a b cells slots i 23 := by
  intro K
  induction K using Nat.strongRecOn with
  | _ K ih =>
    intro i cells slots hKi hi hcb hsb
    have hh0 := hh
    obtain ⟨hst, hM, hZ, hX, hbl, hbA, hK, hA, hL0⟩ := hh
    obtain ⟨hx, hb, -, hml, hown, hts, -⟩ := id hM
    have k799 : i + 6 ≤ L0 → ∀ c2 s2 : Nat, c2 + 2 * (L0 - (i + 6)) ≤ 400000 → s2 + 12 * (L0 - (i + 6)) ≤ 6000000 → xG p l e s m #[Value.ref b] below meth c (lw_Z below #[Value.ref b] s) D A cI cZ cJ ax ao ar ap am a b c2 s2 i 799 := by
      intro h6 c2 s2 g1 g2 P L M R ln cd u ls H locs hv hl hP hD hS
      refine lv_iinc (k := 4) (v := nI (i + 6)) hx hb d_La_law_799 hl rfl (by rw [show Int32.ofInt 6 = nI 6 by decide, nI_add]) (by decide) rfl (fun ls hl => ?_)
      have hl : lv_has ls 7 [(4, .int (nI (i + 6))), (0, .ref b), (1, .ref ax), (2, .ref (a 0)), (3, .ref ao)] := hl
      refine lv_goto hx hb d_La_law_802 (tgt := 23) (by decide) ?_
      exact ih (L0 - (i + 6)) (by omega) (i + 6) c2 s2 rfl h6 g1 g2 P L M R ln cd u ls H locs hv (lv_sub hl [1, 2, 3, 4, 0] rfl) hP hD hS
    intro P L M R ln cd u ls H locs hv hl hP hD hS
    refine lv_iload hx hb d_La_law_23 (lv_at hl 4 rfl) ?_
    refine lv_aload_n hx hb d_La_law_25 rfl (lv_at hl 0 rfl) ?_
    refine x_slen hM hX hbl hbA hS d_La_law_26 ?_
    refine lv_bipush (v := nI 6) hx hb d_La_law_27 (by decide) ?_
    refine lv_isub hx hb d_La_law_29 ?_
    refine lv_icmp_gt (tgt := 805) hx hb d_La_law_30 (by decide) (fun hc30 => ?_) (fun hc30 => ?_)
    · refine lv_iconst (v := nI 1) hx hb d_La_law_805 (by decide) ?_
      refine va_forget (fun q hq => hAs _ (hS.2.2 q hq)) ?_
      refine W.widen (k := 601024) (n := 7293034) (by omega) (by omega) ?_
      exact lw_ret hx hb hM.2.2.1 hM.2.2.2.2.2.2.1 d_La_law_806
    · have h6 := x_lim hL0 (by omega) hc30
      refine lv_aload_n hx hb d_La_law_33 rfl (lv_at hl 0 rfl) ?_
      refine lv_iload hx hb d_La_law_34 (lv_at hl 4 rfl) ?_
      refine x_sld hM hX hbl hbA hS (by omega) (by omega) d_La_law_36 ?_
      refine lv_bipush (v := nI 15) hx hb d_La_law_37 (by decide) ?_
      refine lv_iand hx hb d_La_law_39 ?_
      by_cases h100 : xs i &&& nI 15 = 0
      · refine lv_tableIn (off := 64) (tgt := 104) hx hb d_La_law_40 (by rw [h100]; decide) (by rw [h100]; decide) (by rw [h100]; decide) (by decide) ?_
        exact law_code hh0 h6 (by omega) (by omega) (k799 h6 _ _ (by omega) (by omega)) P L M R ln cd u ls H locs hv hl hP hD hS
      by_cases h101 : xs i &&& nI 15 = 1
      · refine lv_tableIn (off := 168) (tgt := 208) hx hb d_La_law_40 (by rw [h101]; decide) (by rw [h101]; decide) (by rw [h101]; decide) (by decide) ?_
        exact law_clear hh0 h6 (by omega) (by omega) (k799 h6 _ _ (by omega) (by omega)) P L M R ln cd u ls H locs hv hl hP hD hS
      by_cases h102 : xs i &&& nI 15 = 2
      · refine lv_tableIn (off := 179) (tgt := 219) hx hb d_La_law_40 (by rw [h102]; decide) (by rw [h102]; decide) (by rw [h102]; decide) (by decide) ?_
        exact law_rewrite hh0 h6 (by omega) (by omega) (k799 h6 _ _ (by omega) (by omega)) P L M R ln cd u ls H locs hv hl hP hD hS
      by_cases h103 : xs i &&& nI 15 = 3
      · refine lv_tableIn (off := 223) (tgt := 263) hx hb d_La_law_40 (by rw [h103]; decide) (by rw [h103]; decide) (by rw [h103]; decide) (by decide) ?_
        exact law_rewritten hh0 h6 (by omega) (by omega) (k799 h6 _ _ (by omega) (by omega)) P L M R ln cd u ls H locs hv hl hP hD hS
      by_cases h104 : xs i &&& nI 15 = 4
      · refine lv_tableIn (off := 291) (tgt := 331) hx hb d_La_law_40 (by rw [h104]; decide) (by rw [h104]; decide) (by rw [h104]; decide) (by decide) ?_
        exact law_start hh0 h6 (by omega) (by omega) (k799 h6 _ _ (by omega) (by omega)) P L M R ln cd u ls H locs hv hl hP hD hS
      by_cases h105 : xs i &&& nI 15 = 5
      · refine lv_tableIn (off := 367) (tgt := 407) hx hb d_La_law_40 (by rw [h105]; decide) (by rw [h105]; decide) (by rw [h105]; decide) (by decide) ?_
        exact law_step hh0 h6 (by omega) (by omega) (k799 h6 _ _ (by omega) (by omega)) P L M R ln cd u ls H locs hv hl hP hD hS
      by_cases h106 : xs i &&& nI 15 = 6
      · refine lv_tableIn (off := 423) (tgt := 463) hx hb d_La_law_40 (by rw [h106]; decide) (by rw [h106]; decide) (by rw [h106]; decide) (by decide) ?_
        exact law_look hh0 h6 (by omega) (by omega) (k799 h6 _ _ (by omega) (by omega)) P L M R ln cd u ls H locs hv hl hP hD hS
      by_cases h107 : xs i &&& nI 15 = 7
      · refine lv_tableIn (off := 479) (tgt := 519) hx hb d_La_law_40 (by rw [h107]; decide) (by rw [h107]; decide) (by rw [h107]; decide) (by decide) ?_
        exact law_register hh0 h6 (by omega) (by omega) (k799 h6 _ _ (by omega) (by omega)) P L M R ln cd u ls H locs hv hl hP hD hS
      by_cases h108 : xs i &&& nI 15 = 8
      · refine lv_tableIn (off := 535) (tgt := 575) hx hb d_La_law_40 (by rw [h108]; decide) (by rw [h108]; decide) (by rw [h108]; decide) (by decide) ?_
        exact law_printed hh0 h6 (by omega) (by omega) (k799 h6 _ _ (by omega) (by omega)) P L M R ln cd u ls H locs hv hl hP hD hS
      by_cases h109 : xs i &&& nI 15 = 9
      · refine lv_tableIn (off := 591) (tgt := 631) hx hb d_La_law_40 (by rw [h109]; decide) (by rw [h109]; decide) (by rw [h109]; decide) (by decide) ?_
        exact law_heap hh0 h6 (by omega) (by omega) (k799 h6 _ _ (by omega) (by omega)) P L M R ln cd u ls H locs hv hl hP hD hS
      by_cases h110 : xs i &&& nI 15 = 10
      · refine lv_tableIn (off := 647) (tgt := 687) hx hb d_La_law_40 (by rw [h110]; decide) (by rw [h110]; decide) (by rw [h110]; decide) (by decide) ?_
        exact law_shadow hh0 h6 (by omega) (by omega) (k799 h6 _ _ (by omega) (by omega)) P L M R ln cd u ls H locs hv hl hP hD hS
      by_cases h111 : xs i &&& nI 15 = 11
      · refine lv_tableIn (off := 703) (tgt := 743) hx hb d_La_law_40 (by rw [h111]; decide) (by rw [h111]; decide) (by rw [h111]; decide) (by decide) ?_
        exact law_report hh0 h6 (by omega) (by omega) (k799 h6 _ _ (by omega) (by omega)) P L M R ln cd u ls H locs hv hl hP hD hS
      refine lv_tableOut (tgt := 799) hx hb d_La_law_40 (x_t011 h100 h101 h102 h103 h104 h105 h106 h107 h108 h109 h110 h111) (by decide) ?_
      exact k799 h6 cells slots (by omega) (by omega) P L M R ln cd u ls H locs hv hl hP hD hS
