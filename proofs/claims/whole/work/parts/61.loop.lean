theorem sw_out_0_35 {x : Int32} (h0 : ¬ x = 0) (h1 : ¬ x = 1) (h2 : ¬ x = 2) (h3 : ¬ x = 3) (h4 : ¬ x = 4) (h5 : ¬ x = 5) (h6 : ¬ x = 6) (h7 : ¬ x = 7) (h8 : ¬ x = 8) (h9 : ¬ x = 9) (h10 : ¬ x = 10) (h11 : ¬ x = 11) (h12 : ¬ x = 12) (h13 : ¬ x = 13) (h14 : ¬ x = 14) (h15 : ¬ x = 15) (h16 : ¬ x = 16) (h17 : ¬ x = 17) (h18 : ¬ x = 18) (h19 : ¬ x = 19) (h20 : ¬ x = 20) (h21 : ¬ x = 21) (h22 : ¬ x = 22) (h23 : ¬ x = 23) (h24 : ¬ x = 24) (h25 : ¬ x = 25) (h26 : ¬ x = 26) (h27 : ¬ x = 27) (h28 : ¬ x = 28) (h29 : ¬ x = 29) (h30 : ¬ x = 30) (h31 : ¬ x = 31) (h32 : ¬ x = 32) (h33 : ¬ x = 33) (h34 : ¬ x = 34) (h35 : ¬ x = 35) : x.toInt < 0 ∨ 35 < x.toInt := by
  apply Classical.byContradiction
  intro hn
  have z1 : 0 ≤ x := by rw [fa_le]; show (0 : Int) ≤ x.toInt; omega
  have z2 : x ≤ 35 := by rw [fa_le]; show x.toInt ≤ (35 : Int); omega
  obtain ⟨W, -, hW, rfl⟩ := w_of' (a := 0) (N := 35) (by decide) (by decide) z1 z2
  match W, hW with
  | 0, _ => exact h0 rfl
  | 1, _ => exact h1 rfl
  | 2, _ => exact h2 rfl
  | 3, _ => exact h3 rfl
  | 4, _ => exact h4 rfl
  | 5, _ => exact h5 rfl
  | 6, _ => exact h6 rfl
  | 7, _ => exact h7 rfl
  | 8, _ => exact h8 rfl
  | 9, _ => exact h9 rfl
  | 10, _ => exact h10 rfl
  | 11, _ => exact h11 rfl
  | 12, _ => exact h12 rfl
  | 13, _ => exact h13 rfl
  | 14, _ => exact h14 rfl
  | 15, _ => exact h15 rfl
  | 16, _ => exact h16 rfl
  | 17, _ => exact h17 rfl
  | 18, _ => exact h18 rfl
  | 19, _ => exact h19 rfl
  | 20, _ => exact h20 rfl
  | 21, _ => exact h21 rfl
  | 22, _ => exact h22 rfl
  | 23, _ => exact h23 rfl
  | 24, _ => exact h24 rfl
  | 25, _ => exact h25 rfl
  | 26, _ => exact h26 rfl
  | 27, _ => exact h27 rfl
  | 28, _ => exact h28 rfl
  | 29, _ => exact h29 rfl
  | 30, _ => exact h30 rfl
  | 31, _ => exact h31 rfl
  | 32, _ => exact h32 rfl
  | 33, _ => exact h33 rfl
  | 34, _ => exact h34 rfl
  | 35, _ => exact h35 rfl
  | W + 36, h => omega
theorem len_ex {L : Nat} (hL : L ≤ 3072) : nI L - 6 < nI (6 * (L / 6)) := by
  rw [fa_lt, show (6 : Int32) = nI 6 from rfl, pk_sub_toInt (by omega) (by decide), nI_toInt (by omega)]
  omega
theorem len_in {L j : Nat} (hL : L ≤ 3072) (hj : 6 * (j + 1) ≤ L) : ¬ nI L - 6 < nI (6 * j) := by
  rw [fa_lt, show (6 : Int32) = nI 6 from rfl, pk_sub_toInt (by omega) (by decide), nI_toInt (by omega)]
  omega
set_option maxHeartbeats 4000000 in
theorem law_next {l : Launch} {X : Gx} {C : Cx} {b j : Nat} (hC : cOK X room_1 C cL_law RL) (ih : NX l X C b (j + 1) 18) : NX l X C b j 1241 := by
  intro i m r c q nu vc sb tp by_ sh nn fo kp hRel
  refine v_iinc_3 hC (v := _ + 6) rfl rfl dL_law_1241 (q := 1244) rfl ?_
  refine v_goto hC dL_law_1244 (t := 18) rfl ?_
  refine v_same rfl ?_ rfl (ih i m r c q nu vc sb tp by_ sh nn fo kp hRel)
  rw [show (6 : Int32) = nI 6 from rfl, n6, show 6 * j + 6 = 6 * (j + 1) by omega]
set_option maxHeartbeats 4000000 in
set_option maxRecDepth 100000 in
theorem law_loop {l : Launch} {X : Gx} {C : Cx} {b L : Nat} {xs : Nat → Int32} (hC : cOK X room_1 C cL_law RL) (hX : cX X C b L xs) (hL : L ≤ 3072) (hEnd : ∀ (f : Hp) (lv : Lv), V l X room_1 C f 1248 lv [.int 1]) : ∀ j, j ≤ L / 6 → NX l X C b j 18 := by
  refine v_up (L / 6) ?_ ?_
  · intro i m r c q nu vc sb tp by_ sh nn fo kp hRel
    refine v_iload_n hC rfl dL_law_18 (q := 19) rfl ?_
    refine v_aload_n hC rfl dL_law_19 (q := 20) rfl ?_
    refine v_slen hC hX dL_law_20 (q := 21) rfl ?_
    refine v_bipush hC (v := 6) rfl dL_law_21 (q := 23) rfl ?_
    refine v_isub hC dL_law_23 (q := 24) rfl ?_
    refine v_icmp_gt hC dL_law_24 (t := 1247) rfl (q := 27) rfl (fun _ => ?_) (fun h => absurd (len_ex hL) h)
    refine v_iconst hC (v := 1) rfl dL_law_1247 (q := 1248) rfl ?_
    exact hEnd _ _
  · intro j hj ih
    have nx := law_next hC ih
    have hj6 : 6 * (j + 1) ≤ L := by omega
    intro i m r c q nu vc sb tp by_ sh nn fo kp hRel
    refine v_iload_n hC rfl dL_law_18 (q := 19) rfl ?_
    refine v_aload_n hC rfl dL_law_19 (q := 20) rfl ?_
    refine v_slen hC hX dL_law_20 (q := 21) rfl ?_
    refine v_bipush hC (v := 6) rfl dL_law_21 (q := 23) rfl ?_
    refine v_isub hC dL_law_23 (q := 24) rfl ?_
    refine v_icmp_gt hC dL_law_24 (t := 1247) rfl (q := 27) rfl (fun h => absurd h (len_in hL hj6)) (fun _ => ?_)
    refine v_aload_n hC rfl dL_law_27 (q := 28) rfl ?_
    refine v_iload_n hC rfl dL_law_28 (q := 29) rfl ?_
    refine v_sld hC hX (k := 6 * j) (by omega) hL rfl dL_law_29 (q := 30) rfl ?_
    refine v_bipush hC (v := 63) rfl dL_law_30 (q := 32) rfl ?_
    refine v_iand hC dL_law_32 (q := 33) rfl ?_
    refine v_em 0 (fun hs33_0 => ?_) (fun hs33_0 => ?_)
    · refine v_tin hC dL_law_33 (by decide) (by decide) rfl (t := 192) rfl ?_
      exact law_person hC hX hL hj6 nx hRel
    refine v_em 1 (fun hs33_1 => ?_) (fun hs33_1 => ?_)
    · refine v_tin hC dL_law_33 (by decide) (by decide) rfl (t := 215) rfl ?_
      exact law_of hC hX hL hj6 nx hRel
    refine v_em 2 (fun hs33_2 => ?_) (fun hs33_2 => ?_)
    · refine v_tin hC dL_law_33 (by decide) (by decide) rfl (t := 248) rfl ?_
      exact law_set hC hX hL hj6 nx hRel
    refine v_em 3 (fun hs33_3 => ?_) (fun hs33_3 => ?_)
    · refine v_tin hC dL_law_33 (by decide) (by decide) rfl (t := 291) rfl ?_
      exact law_turn hC hX hL hj6 nx hRel
    refine v_em 4 (fun hs33_4 => ?_) (fun hs33_4 => ?_)
    · refine v_tin hC dL_law_33 (by decide) (by decide) rfl (t := 324) rfl ?_
      exact law_as hC hX hL hj6 nx hRel
    refine v_em 5 (fun hs33_5 => ?_) (fun hs33_5 => ?_)
    · refine v_tin hC dL_law_33 (by decide) (by decide) rfl (t := 357) rfl ?_
      exact law_grind hC hX hL hj6 nx hRel
    refine v_em 6 (fun hs33_6 => ?_) (fun hs33_6 => ?_)
    · refine v_tin hC dL_law_33 (by decide) (by decide) rfl (t := 380) rfl ?_
      exact law_lend hC hX hL hj6 nx hRel
    refine v_em 7 (fun hs33_7 => ?_) (fun hs33_7 => ?_)
    · refine v_tin hC dL_law_33 (by decide) (by decide) rfl (t := 413) rfl ?_
      exact law_looks hC hX hL hj6 nx hRel
    refine v_em 8 (fun hs33_8 => ?_) (fun hs33_8 => ?_)
    · refine v_tin hC dL_law_33 (by decide) (by decide) rfl (t := 446) rfl ?_
      exact law_sees hC hX hL hj6 nx hRel
    refine v_em 9 (fun hs33_9 => ?_) (fun hs33_9 => ?_)
    · refine v_tin hC dL_law_33 (by decide) (by decide) rfl (t := 479) rfl ?_
      exact law_days hC hX hL hj6 nx hRel
    refine v_em 10 (fun hs33_10 => ?_) (fun hs33_10 => ?_)
    · refine v_tin hC dL_law_33 (by decide) (by decide) rfl (t := 502) rfl ?_
      exact law_now hC hX hL hj6 nx hRel
    refine v_em 11 (fun hs33_11 => ?_) (fun hs33_11 => ?_)
    · refine v_tin hC dL_law_33 (by decide) (by decide) rfl (t := 525) rfl ?_
      exact law_on hC hX hL hj6 nx hRel
    refine v_em 12 (fun hs33_12 => ?_) (fun hs33_12 => ?_)
    · refine v_tin hC dL_law_33 (by decide) (by decide) rfl (t := 568) rfl ?_
      exact law_then hC hX hL hj6 nx hRel
    refine v_em 13 (fun hs33_13 => ?_) (fun hs33_13 => ?_)
    · refine v_tin hC dL_law_33 (by decide) (by decide) rfl (t := 611) rfl ?_
      exact law_forgives hC hX hL hj6 nx hRel
    refine v_em 14 (fun hs33_14 => ?_) (fun hs33_14 => ?_)
    · refine v_tin hC dL_law_33 (by decide) (by decide) rfl (t := 634) rfl ?_
      exact law_worn hC hX hL hj6 nx hRel
    refine v_em 15 (fun hs33_15 => ?_) (fun hs33_15 => ?_)
    · refine v_tin hC dL_law_33 (by decide) (by decide) rfl (t := 657) rfl ?_
      exact law_unseen hC hX hL hj6 nx hRel
    refine v_em 16 (fun hs33_16 => ?_) (fun hs33_16 => ?_)
    · refine v_tin hC dL_law_33 (by decide) (by decide) rfl (t := 680) rfl ?_
      exact law_borrow hC hX hL hj6 nx hRel
    refine v_em 17 (fun hs33_17 => ?_) (fun hs33_17 => ?_)
    · refine v_tin hC dL_law_33 (by decide) (by decide) rfl (t := 703) rfl ?_
      exact law_kind hC hX hL hj6 nx hRel
    refine v_em 18 (fun hs33_18 => ?_) (fun hs33_18 => ?_)
    · refine v_tin hC dL_law_33 (by decide) (by decide) rfl (t := 726) rfl ?_
      exact law_better hC hX hL hj6 nx hRel
    refine v_em 19 (fun hs33_19 => ?_) (fun hs33_19 => ?_)
    · refine v_tin hC dL_law_33 (by decide) (by decide) rfl (t := 759) rfl ?_
      exact law_most hC hX hL hj6 nx hRel
    refine v_em 20 (fun hs33_20 => ?_) (fun hs33_20 => ?_)
    · refine v_tin hC dL_law_33 (by decide) (by decide) rfl (t := 792) rfl ?_
      exact law_sharpest hC hX hL hj6 nx hRel
    refine v_em 21 (fun hs33_21 => ?_) (fun hs33_21 => ?_)
    · refine v_tin hC dL_law_33 (by decide) (by decide) rfl (t := 815) rfl ?_
      exact law_push hC hX hL hj6 nx hRel
    refine v_em 22 (fun hs33_22 => ?_) (fun hs33_22 => ?_)
    · refine v_tin hC dL_law_33 (by decide) (by decide) rfl (t := 828) rfl ?_
      exact law_feed hC hX hL hj6 nx hRel
    refine v_em 23 (fun hs33_23 => ?_) (fun hs33_23 => ?_)
    · refine v_tin hC dL_law_33 (by decide) (by decide) rfl (t := 861) rfl ?_
      exact law_wipe hC hX hL hj6 nx hRel
    refine v_em 24 (fun hs33_24 => ?_) (fun hs33_24 => ?_)
    · refine v_tin hC dL_law_33 (by decide) (by decide) rfl (t := 874) rfl ?_
      exact law_quay hC hX hL hj6 nx hRel
    refine v_em 25 (fun hs33_25 => ?_) (fun hs33_25 => ?_)
    · refine v_tin hC dL_law_33 (by decide) (by decide) rfl (t := 887) rfl ?_
      exact law_sheet hC hX hL hj6 nx hRel
    refine v_em 26 (fun hs33_26 => ?_) (fun hs33_26 => ?_)
    · refine v_tin hC dL_law_33 (by decide) (by decide) rfl (t := 930) rfl ?_
      exact law_write hC hX hL hj6 nx hRel
    refine v_em 27 (fun hs33_27 => ?_) (fun hs33_27 => ?_)
    · refine v_tin hC dL_law_33 (by decide) (by decide) rfl (t := 1004) rfl ?_
      exact law_copy hC hX hL hj6 nx hRel
    refine v_em 28 (fun hs33_28 => ?_) (fun hs33_28 => ?_)
    · refine v_tin hC dL_law_33 (by decide) (by decide) rfl (t := 1067) rfl ?_
      exact law_lays hC hX hL hj6 nx hRel
    refine v_em 29 (fun hs33_29 => ?_) (fun hs33_29 => ?_)
    · refine v_tin hC dL_law_33 (by decide) (by decide) rfl (t := 1090) rfl ?_
      exact law_book hC hX hL hj6 nx hRel
    refine v_em 30 (fun hs33_30 => ?_) (fun hs33_30 => ?_)
    · refine v_tin hC dL_law_33 (by decide) (by decide) rfl (t := 1123) rfl ?_
      exact law_read hC hX hL hj6 nx hRel
    refine v_em 31 (fun hs33_31 => ?_) (fun hs33_31 => ?_)
    · refine v_tin hC dL_law_33 (by decide) (by decide) rfl (t := 1156) rfl ?_
      exact law_image hC hX hL hj6 nx hRel
    refine v_em 32 (fun hs33_32 => ?_) (fun hs33_32 => ?_)
    · refine v_tin hC dL_law_33 (by decide) (by decide) rfl (t := 1169) rfl ?_
      exact law_undo hC hX hL hj6 nx hRel
    refine v_em 33 (fun hs33_33 => ?_) (fun hs33_33 => ?_)
    · refine v_tin hC dL_law_33 (by decide) (by decide) rfl (t := 1182) rfl ?_
      exact law_tear hC hX hL hj6 nx hRel
    refine v_em 34 (fun hs33_34 => ?_) (fun hs33_34 => ?_)
    · refine v_tin hC dL_law_33 (by decide) (by decide) rfl (t := 1195) rfl ?_
      exact law_count hC hX hL hj6 nx hRel
    refine v_em 35 (fun hs33_35 => ?_) (fun hs33_35 => ?_)
    · refine v_tin hC dL_law_33 (by decide) (by decide) rfl (t := 1218) rfl ?_
      exact law_status hC hX hL hj6 nx hRel
    refine v_tout hC dL_law_33 (sw_out_0_35 hs33_0 hs33_1 hs33_2 hs33_3 hs33_4 hs33_5 hs33_6 hs33_7 hs33_8 hs33_9 hs33_10 hs33_11 hs33_12 hs33_13 hs33_14 hs33_15 hs33_16 hs33_17 hs33_18 hs33_19 hs33_20 hs33_21 hs33_22 hs33_23 hs33_24 hs33_25 hs33_26 hs33_27 hs33_28 hs33_29 hs33_30 hs33_31 hs33_32 hs33_33 hs33_34 hs33_35) (t := 1241) rfl ?_
    exact nx _ _ _ _ _ _ _ _ _ _ _ _ _ _ hRel