set_option maxHeartbeats 4000000 in
set_option maxRecDepth 100000 in
theorem law_loop {p : Program} {l : Launch} {e : Env} {s : State} {m : MethodId} {below : List Frame} {meth : Method} {c : Code} {b L : Nat} {xs : Nat → Int32} {D : va_G} {a a2 : Nat → Nat} {kI kZ kL : ClassId} {q : Nat} (B0 : lw_B p l s m meth c b L xs D kI kZ kL) : ∀ (n : Nat) (i : Int32) (c0 s0 : Nat), 0 ≤ i.toInt → i.toInt ≤ L → (L : Int) - i.toInt < n → 6 * (c0 : Int) ≤ 360 + i.toInt → (s0 : Int) ≤ 9971 + i.toInt → ∀ (F G : Nat → Nat → Int32) (g : Nat → Int64) (H : Heap) (locs : List Loc) (ls : Array Slot), lw_J s b D a a2 kI kZ kL q i F G g H locs ls → W p l e room_1 s m #[Value.ref b] below meth c H locs c0 s0 (lw_Z below #[Value.ref b] s) (F0 m 23 ls []) := by
  obtain ⟨hx, hb, hr, hml, hown, hG, hlocks, hX, hbl, hK, hZ, hC, hN, hlt, hL⟩ := id B0
  have hbA : ¬ (fun q : Nat => s.heap.size ≤ q) b := Nat.not_le.mpr hbl
  have hnL : (nI L).toInt = (L : Int) := nI_toInt (by omega)
  intro n
  induction n with
  | zero => intro i c0 s0 h1 h2 h3; exact absurd h3 (by omega)
  | succ n ih =>
    intro i c0 s0 h1 h2 h3 h4 h5 F G g H locs ls J
    obtain ⟨hI, hJ, hE, hP, hD, hS, hl⟩ := id J
    refine lv_iload hx hb d_w_law_23 (lv_at hl 0 rfl) ?_
    refine lv_aload_n hx hb d_w_law_25 rfl (lv_at hl 4 rfl) ?_
    refine va_slen hx hb hX hbl hbA hS d_w_law_26 ?_
    refine lv_bipush (v := 6) hx hb d_w_law_27 (by decide) ?_
    refine lv_isub hx hb d_w_law_29 ?_
    refine lv_topi (fun v ev => ?_)
    have iv : v.toInt = (L : Int) - 6 := by rw [ev]; exact (rl_subk (x := nI L) (k := 6) (n := 6) (by decide) (by omega) (by omega)).trans (by rw [hnL])
    refine lv_icmp_gt (tgt := 881) hx hb d_w_law_30 (by decide) (fun c9 => ?_) (fun c9 => ?_)
    · refine lv_iconst (v := 1) hx hb d_w_law_881 (by decide) ?_
      refine va_forget (fun q hq => hS.2.2 q hq) ?_
      refine W.widen (k := 1087) (n := 18181) (by omega) (by omega) ?_
      exact lw_ret hx hb hr hlocks d_w_law_882
    · have ic := rl_inlt c9
      have kk : lw_K p l e s m below meth c b D a a2 kI kZ kL q i (c0 + 1) (s0 + 6) := by
        intro F G g H locs ls J
        obtain ⟨hI, hJ, hE, hP, hD, hS, hl⟩ := J
        obtain ⟨x4, e4⟩ : ∃ y : Int32, y = i + 6 := ⟨_, rfl⟩
        refine lv_iinc (v := x4) (lv' := [(4, .int x4), (3, .ref q), (2, .ref (a2 0)), (1, .ref (a 0)), (0, .ref b)]) hx hb d_w_law_875 hl (k := 0) rfl (by rw [e4]; rfl) (by decide) rfl (fun ls hl => ?_)
        have i4 : x4.toInt = i.toInt + 6 := by rw [e4]; exact rl_addk (by decide) (by omega) (by omega)
        refine lv_goto (tgt := 23) hx hb d_w_law_878 (by decide) ?_
        exact ih x4 (c0 + 1) (s0 + 6) (by omega) (by omega) (by omega) (by omega) (by omega) F G g H locs ls ⟨hI, hJ, hE, hP, hD, hS, hl⟩
      refine lv_aload_n hx hb d_w_law_33 rfl (lv_at hl 4 rfl) ?_
      refine lv_iload hx hb d_w_law_34 (lv_at hl 0 rfl) ?_
      refine va_sld hx hb hX hbl hbA hS (rl_in (n := L) (by omega) (by omega)) d_w_law_36 ?_
      refine lv_bipush (v := 31) hx hb d_w_law_37 (by decide) ?_
      refine lv_iand hx hb d_w_law_39 ?_
      refine lv_topi (fun w ew => ?_)
      by_cases hsw : w.toInt < 0 ∨ 16 < w.toInt
      · refine lv_tableOut (tgt := 875) hx hb d_w_law_40 hsw (by decide) ?_
        refine W.widen (k := c0 + 1) (n := s0 + 6) (by omega) (by omega) ?_
        exact kk F G g H locs ls J
      · have hsk : w.toInt = 0 ∨ w.toInt = 1 ∨ w.toInt = 2 ∨ w.toInt = 3 ∨ w.toInt = 4 ∨ w.toInt = 5 ∨ w.toInt = 6 ∨ w.toInt = 7 ∨ w.toInt = 8 ∨ w.toInt = 9 ∨ w.toInt = 10 ∨ w.toInt = 11 ∨ w.toInt = 12 ∨ w.toInt = 13 ∨ w.toInt = 14 ∨ w.toInt = 15 ∨ w.toInt = 16 := by omega
        rcases hsk with hsk | hsk | hsk | hsk | hsk | hsk | hsk | hsk | hsk | hsk | hsk | hsk | hsk | hsk | hsk | hsk | hsk
        · refine lv_tableIn (off := 84) (tgt := 124) hx hb d_w_law_40 (by omega) (by omega) (by rw [hsk]; rfl) (by decide) ?_
          exact law_0 B0 h1 (by omega) (by omega) (by omega) J kk
        · refine lv_tableIn (off := 109) (tgt := 149) hx hb d_w_law_40 (by omega) (by omega) (by rw [hsk]; rfl) (by decide) ?_
          exact law_1 B0 h1 (by omega) (by omega) (by omega) J kk
        · refine lv_tableIn (off := 162) (tgt := 202) hx hb d_w_law_40 (by omega) (by omega) (by rw [hsk]; rfl) (by decide) ?_
          exact law_2 B0 h1 (by omega) (by omega) (by omega) J kk
        · refine lv_tableIn (off := 223) (tgt := 263) hx hb d_w_law_40 (by omega) (by omega) (by rw [hsk]; rfl) (by decide) ?_
          exact law_3 B0 h1 (by omega) (by omega) (by omega) J kk
        · refine lv_tableIn (off := 296) (tgt := 336) hx hb d_w_law_40 (by omega) (by omega) (by rw [hsk]; rfl) (by decide) ?_
          exact law_4 B0 h1 (by omega) (by omega) (by omega) J kk
        · refine lv_tableIn (off := 333) (tgt := 373) hx hb d_w_law_40 (by omega) (by omega) (by rw [hsk]; rfl) (by decide) ?_
          exact law_5 B0 h1 (by omega) (by omega) (by omega) J kk
        · refine lv_tableIn (off := 406) (tgt := 446) hx hb d_w_law_40 (by omega) (by omega) (by rw [hsk]; rfl) (by decide) ?_
          exact law_6 B0 h1 (by omega) (by omega) (by omega) J kk
        · refine lv_tableIn (off := 419) (tgt := 459) hx hb d_w_law_40 (by omega) (by omega) (by rw [hsk]; rfl) (by decide) ?_
          exact law_7 B0 h1 (by omega) (by omega) (by omega) J kk
        · refine lv_tableIn (off := 484) (tgt := 524) hx hb d_w_law_40 (by omega) (by omega) (by rw [hsk]; rfl) (by decide) ?_
          exact law_8 B0 h1 (by omega) (by omega) (by omega) J kk
        · refine lv_tableIn (off := 521) (tgt := 561) hx hb d_w_law_40 (by omega) (by omega) (by rw [hsk]; rfl) (by decide) ?_
          exact law_9 B0 h1 (by omega) (by omega) (by omega) J kk
        · refine lv_tableIn (off := 558) (tgt := 598) hx hb d_w_law_40 (by omega) (by omega) (by rw [hsk]; rfl) (by decide) ?_
          exact law_10 B0 h1 (by omega) (by omega) (by omega) J kk
        · refine lv_tableIn (off := 595) (tgt := 635) hx hb d_w_law_40 (by omega) (by omega) (by rw [hsk]; rfl) (by decide) ?_
          exact law_11 B0 h1 (by omega) (by omega) (by omega) J kk
        · refine lv_tableIn (off := 632) (tgt := 672) hx hb d_w_law_40 (by omega) (by omega) (by rw [hsk]; rfl) (by decide) ?_
          exact law_12 B0 h1 (by omega) (by omega) (by omega) J kk
        · refine lv_tableIn (off := 693) (tgt := 733) hx hb d_w_law_40 (by omega) (by omega) (by rw [hsk]; rfl) (by decide) ?_
          exact law_13 B0 h1 (by omega) (by omega) (by omega) J kk
        · refine lv_tableIn (off := 733) (tgt := 773) hx hb d_w_law_40 (by omega) (by omega) (by rw [hsk]; rfl) (by decide) ?_
          exact law_14 B0 h1 (by omega) (by omega) (by omega) J kk
        · refine lv_tableIn (off := 758) (tgt := 798) hx hb d_w_law_40 (by omega) (by omega) (by rw [hsk]; rfl) (by decide) ?_
          exact law_15 B0 h1 (by omega) (by omega) (by omega) J kk
        · refine lv_tableIn (off := 795) (tgt := 835) hx hb d_w_law_40 (by omega) (by omega) (by rw [hsk]; rfl) (by decide) ?_
          exact law_16 B0 h1 (by omega) (by omega) (by omega) J kk
