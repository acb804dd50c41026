theorem bst_s0 {e : Nat → Nat} {may : Nat → Bool} {s0 : Nat} : ∀ k, (bstF e may s0 k).1 ≤ s0
  | 0 => Nat.le_refl _
  | k + 1 => by
    rw [bstF]
    have h := bst_s0 (e := e) (may := may) (s0 := s0) k
    split
    · rename_i z
      simp only [Bool.and_eq_true, decide_eq_true_eq] at z
      exact Nat.le_of_lt (Nat.lt_of_lt_of_le z.2 h)
    · exact h
theorem vsw_id {v : Nat → Int32} : vsw v v = v := by
  rw [vsw, upd_id (v := v) (j := 4) rfl, upd_id (v := v) (j := 5) rfl, upd_id (v := v) (j := 6) rfl]
theorem okV_k {v : Nat → Int32} (h : okV v) {x : Int32} (hx : 0 ≤ x ∧ x ≤ 5) : okV (upd v 0 x) := ⟨hx, h.2⟩
theorem okV_g {v : Nat → Int32} (h : okV v) {x : Int32} (hx : 0 ≤ x ∧ x ≤ 99) : okV (upd v 1 x) := ⟨h.1, hx, h.2.2⟩
theorem okV_vsw {v w : Nat → Int32} (h : okV v) (h2 : okV w) : okV (vsw v w) := ⟨h.1, h.2.1, h.2.2.1, h.2.2.2.1, h2.2.2.2.2⟩
theorem nI_rng {j a : Nat} (h : j ≤ a) (ha : a < 2147483648) : (0 : Int32) ≤ nI j ∧ nI j ≤ nI a := ⟨Int32.not_lt.mp (nI_pos (by omega)), nI_le h ha⟩
theorem m1_ne {j : Nat} (h : j < 2147483648) : ¬ nI j = -1 := by
  intro z
  have := nI_pos h
  rw [z] at this
  exact this (by decide)
set_option maxHeartbeats 4000000 in
set_option maxRecDepth 100000 in
theorem c_X5_kind {l : Launch} {X : Gx} {M : MS} {q nu : Nat → Nat → Int32} {vc : Nat → Nat → Nat → Int32} {sb : Nat → Nat → Int32} {tp by_ : Nat → Int32} {sh : Nat → Nat → Int32} {nn : Nat → Nat → Int64} {fo : Nat → Int32} {kp : Int32} {n : Nat} (hN : q 0 1 = nI n) (h8 : n ≤ 8) (hnu : ∀ p, p < n → nu 0 p = nI p) (hok : ∀ p, p < n → okV (vc 0 p)) {p : Int32} : Ci l X yX5_kind cX5_kind 7 (some .int) (rmk 5 108) [.ref (ga X 0), .int p] (ch X M q nu vc sb tp by_ sh nn fo kp) (fun z g => z = ansI (S_kind n (vc 0) p) ∧ ∃ q2 n2 v2 sb2, g = ch X M (va_up q 2 q2) (va_up nu 2 n2) (va_up vc 2 v2) sb2 tp by_ sh nn (fnF fo (S_kind n (vc 0) p)) kp) := by
  refine ct_i (own := RX5) (lv := [some (.ref (ga X 0)), some (.int p), none, none, none, none, none]) (by decide) rfl (Nat.le_of_ble_eq_true rfl) (Nat.le_of_ble_eq_true rfl) rfl (fun C hC hR => ?_)
  have hix : ∀ P, P < n → pIx n (nI P) = some P := fun P h => pIx_nI h h8
  have hno : ∀ p, (¬ ∃ P, P < n ∧ p = nI P) → pIx n p = none := fun p h => pIx_no h8 h
  have main : ∀ P, P < n → p = nI P → ∀ tk tw, V l X (rmk 5 108) C (trH X M q nu vc sb tp by_ sh nn fo kp (tk) (tw)) 24 [some (.ref (ga X 0)), some (.int (nI P)), some (.int (nI (bstF (fun o => easN (nI P) (upd (vc 0 P) 0 (nI o))) (fun _ => true) (201) 0).1)), some (.int (m1N (bstF (fun o => easN (nI P) (upd (vc 0 P) 0 (nI o))) (fun _ => true) (201) 0).2)), some (.int (nI 0)), none, none] [] := by
    intro P hP hpe
    have hx := hix P hP
    have hP8 : P < 8 := by omega
    have hs : ∀ o, (bstF (fun o => easN (nI P) (upd (vc 0 P) 0 (nI o))) (fun _ => true) (201) o).1 ≤ 201 := bst_le (by first | exact easN_le | decide) (fun _ => easN_le)
    have hb : ∀ k, (bstF (fun o => easN (nI P) (upd (vc 0 P) 0 (nI o))) (fun _ => true) (201) 6).2 = some k → k < 1000 := fun k h => by have := bst_lt _ _ h; omega
    have loop : ∀ j, j ≤ 6 → ∀ tk tw, V l X (rmk 5 108) C (trH X M q nu vc sb tp by_ sh nn fo kp (tk) (tw)) 24 [some (.ref (ga X 0)), some (.int (nI P)), some (.int (nI (bstF (fun o => easN (nI P) (upd (vc 0 P) 0 (nI o))) (fun _ => true) (201) j).1)), some (.int (m1N (bstF (fun o => easN (nI P) (upd (vc 0 P) 0 (nI o))) (fun _ => true) (201) j).2)), some (.int (nI j)), none, none] [] := by
      refine v_up 6 ?_ ?_
      · intro tk tw
        refine v_iload hC rfl dX5_kind_24 (q := 26) rfl ?_
        refine v_bipush hC (v := 6) rfl dX5_kind_26 (q := 28) rfl ?_
        refine v_icmp_ge hC dX5_kind_28 (t := 70) rfl (q := 31) rfl (fun _ => ?_) (fun h => absurd (by decide) h)
        refine v_iload_n hC rfl dX5_kind_70 (q := 71) rfl ?_
        refine v_iconst hC (v := (-1)) rfl dX5_kind_71 (q := 72) rfl ?_
        refine v_icmp_ne hC dX5_kind_72 (t := 84) rfl (q := 75) rfl (fun h72 => ?_) (fun h72 => ?_)
        · refine v_iload_n hC rfl dX5_kind_84 (q := 85) rfl ?_
          refine hR _ _ _ _ ?_ dX5_kind_85
          have hS : S_kind n (vc 0) p = orN (bstF (fun o => easN (nI P) (upd (vc 0 P) 0 (nI o))) (fun _ => true) (201) 6).2 := by simp only [S_kind, hpe, hx, knd_eq]
          rw [hS]
          cases hB : (bstF (fun o => easN (nI P) (upd (vc 0 P) 0 (nI o))) (fun _ => true) (201) 6).2 with
          | none => exact absurd (by rw [hB]; rfl) h72
          | some x =>
            refine ⟨?_, q 2, upd (nu 2) 8 tk, va_up (vc 2) 8 tw, sb, ?_⟩
            · rfl
            · rw [up_id]
              rfl
        · refine v_aload_n hC rfl dX5_kind_75 (q := 76) rfl ?_
          refine v_ldc hC wk_X5_176 dX5_kind_76 (q := 78) rfl ?_
          refine v_Vi hC lkV_X5_56 (c_X5_finding (n := 3) (by decide)) rfl (by decide) (k := 0) (by decide) ch_0 rfl rfl (Nat.le_of_ble_eq_true rfl) dX5_kind_78 (q := 81) rfl ?_
          rintro _ _ ⟨rfl, rfl⟩
          refine v_goto hC dX5_kind_81 (t := 85) rfl ?_
          refine hR _ _ _ _ ?_ dX5_kind_85
          have hS : S_kind n (vc 0) p = orN (bstF (fun o => easN (nI P) (upd (vc 0 P) 0 (nI o))) (fun _ => true) (201) 6).2 := by simp only [S_kind, hpe, hx, knd_eq]
          rw [hS]
          cases hB : (bstF (fun o => easN (nI P) (upd (vc 0 P) 0 (nI o))) (fun _ => true) (201) 6).2 with
          | some x =>
            have := hb x hB
            rw [hB] at h72
            exact absurd h72 (m1_ne (by omega))
          | none =>
            refine ⟨?_, q 2, upd (nu 2) 8 tk, va_up (vc 2) 8 tw, sb, ?_⟩
            · rfl
            · rw [up_id]
              rfl
      · intro j hj ih tk tw
        have hj8 : j < 8 := by omega
        refine v_iload hC rfl dX5_kind_24 (q := 26) rfl ?_
        refine v_bipush hC (v := 6) rfl dX5_kind_26 (q := 28) rfl ?_
        refine v_icmp_ge hC dX5_kind_28 (t := 70) rfl (q := 31) rfl (fun h => absurd h (Int32.not_le.mpr (Int32.lt_of_le_of_lt (nI_le (b := 5) (by omega) (by decide)) (by decide)))) (fun _ => ?_)
        refine v_aload_n hC rfl dX5_kind_31 (q := 32) rfl ?_
        refine v_iload_n hC rfl dX5_kind_32 (q := 33) rfl ?_
        refine v_Vr hC lkV_X5_148 (c_X5_trialOf_T (P := P) (by omega)) rfl (by decide) (k := 0) (by decide) ch_0 rfl rfl (Nat.le_of_ble_eq_true rfl) dX5_kind_33 (q := 36) rfl ?_
        rintro _ _ ⟨rfl, rfl⟩
        refine v_astore_5 hC rfl dX5_kind_36 (q := 38) rfl ?_
        refine v_aload hC rfl dX5_kind_38 (q := 40) rfl ?_
        refine v_iload hC rfl dX5_kind_40 (q := 42) rfl ?_
        refine v_putN hC nl_X5_91 pt_0_1 (k := 4 + 11 * 2 + 8) (by decide) tr_o8 (Nat.le_of_ble_eq_true rfl) rfl rfl (tr_f0 _) dX5_kind_42 (q := 45) rfl ?_
        refine v_aload hC rfl dX5_kind_45 (q := 47) rfl ?_
        refine v_Si hC lkS_X5_155 (c_X5_daysTillForgiven_T (okV_k (hok _ hP) (nI_rng (a := 5) (by omega) (by decide)))) rfl (by decide) rfl (Nat.le_of_ble_eq_true rfl) dX5_kind_47 (q := 50) rfl ?_
        rintro _ _ ⟨rfl, w47, rfl⟩
        rw [hnu _ hP]
        refine v_istore_6 hC rfl dX5_kind_50 (q := 52) rfl ?_
        refine v_iload hC rfl dX5_kind_52 (q := 54) rfl ?_
        refine v_iload_n hC rfl dX5_kind_54 (q := 55) rfl ?_
        refine v_icmp_ge hC dX5_kind_55 (t := 64) rfl (q := 58) rfl (fun h55 => ?_) (fun h55 => ?_)
        · refine v_iinc_4 hC (v := _ + 1) rfl rfl dX5_kind_64 (q := 67) rfl ?_
          refine v_goto hC dX5_kind_67 (t := 24) rfl ?_
          refine v_weak (lv' := [some (.ref (ga X 0)), some (.int (nI P)), some (.int (nI (bstF (fun o => easN (nI P) (upd (vc 0 P) 0 (nI o))) (fun _ => true) (201) j).1)), some (.int (m1N (bstF (fun o => easN (nI P) (upd (vc 0 P) 0 (nI o))) (fun _ => true) (201) j).2)), some (.int (nI j + 1)), none, none]) ⟨rfl, rfl, rfl, rfl, rfl, trivial⟩ ?_
          refine v_same rfl ?_ rfl (ih _ _)
          rw [bst_keep (by rintro ⟨-, z⟩; exact Int32.not_lt.mpr h55 ((nI_ltI (Nat.lt_of_le_of_lt easN_le (by decide)) (Nat.lt_of_le_of_lt (hs j) (by decide))).mpr z))]
          simp [nI_1]
        · refine v_iload hC rfl dX5_kind_58 (q := 60) rfl ?_
          refine v_istore_2 hC rfl dX5_kind_60 (q := 61) rfl ?_
          refine v_iload hC rfl dX5_kind_61 (q := 63) rfl ?_
          refine v_istore_3 hC rfl dX5_kind_63 (q := 64) rfl ?_
          refine v_iinc_4 hC (v := _ + 1) rfl rfl dX5_kind_64 (q := 67) rfl ?_
          refine v_goto hC dX5_kind_67 (t := 24) rfl ?_
          have hk := (nI_ltI (Nat.lt_of_le_of_lt easN_le (by decide)) (Nat.lt_of_le_of_lt (hs j) (by decide))).mp (Int32.not_le.mp h55)
          refine v_weak (lv' := [some (.ref (ga X 0)), some (.int (nI P)), some (.int (nI ((fun o => easN (nI P) (upd (vc 0 P) 0 (nI o))) j))), some (.int (nI j)), some (.int (nI j + 1)), none, none]) ⟨rfl, rfl, rfl, rfl, rfl, trivial⟩ ?_
          refine v_same rfl ?_ rfl (ih _ _)
          rw [bst_take rfl hk]
          simp [nI_1, m1N]
    exact loop 0 (Nat.zero_le _)
  refine v_aload_n hC rfl dX5_kind_0 (q := 1) rfl ?_
  refine v_iload_n hC rfl dX5_kind_1 (q := 2) rfl ?_
  refine v_Vi hC lkV_X5_73 (c_X5_isThere hN h8) rfl (by decide) (k := 0) (by decide) ch_0 rfl rfl (Nat.le_of_ble_eq_true rfl) dX5_kind_2 (q := 5) rfl ?_
  rintro _ _ ⟨⟨⟨P2, hP2, rfl⟩, rfl⟩ | ⟨hc2, rfl⟩, rfl⟩
  · refine v_if_ne hC dX5_kind_5 (t := 15) rfl (q := 8) rfl (fun _ => ?_) (fun h => absurd h (by decide))
    rw [tr0]
    refine v_sipush hC (v := 201) rfl dX5_kind_15 (q := 18) rfl ?_
    refine v_istore_2 hC rfl dX5_kind_18 (q := 19) rfl ?_
    refine v_iconst hC (v := (-1)) rfl dX5_kind_19 (q := 20) rfl ?_
    refine v_istore_3 hC rfl dX5_kind_20 (q := 21) rfl ?_
    refine v_iconst hC (v := 0) rfl dX5_kind_21 (q := 22) rfl ?_
    refine v_istore_4 hC rfl dX5_kind_22 (q := 24) rfl ?_
    exact main P2 hP2 rfl _ _
  · refine v_if_ne hC dX5_kind_5 (t := 15) rfl (q := 8) rfl (fun h => absurd h (by decide)) (fun _ => ?_)
    refine v_aload_n hC rfl dX5_kind_8 (q := 9) rfl ?_
    refine v_ldc hC wk_X5_55 dX5_kind_9 (q := 11) rfl ?_
    refine v_Vi hC lkV_X5_56 (c_X5_finding (n := 0) (by decide)) rfl (by decide) (k := 0) (by decide) ch_0 rfl rfl (Nat.le_of_ble_eq_true rfl) dX5_kind_11 (q := 14) rfl ?_
    rintro _ _ ⟨rfl, rfl⟩
    refine hR _ _ _ _ ?_ dX5_kind_14
    refine ⟨?_, q 2, nu 2, vc 2, sb, ?_⟩
    · simp only [S_kind, ansI, fnF, hno _ hc2]
    · rw [up_id, up_id, up_id]
      simp only [S_kind, ansI, fnF, hno _ hc2]

set_option maxHeartbeats 4000000 in
set_option maxRecDepth 100000 in
theorem c_X5_borrow {l : Launch} {X : Gx} {M : MS} {q nu : Nat → Nat → Int32} {vc : Nat → Nat → Nat → Int32} {sb : Nat → Nat → Int32} {tp by_ : Nat → Int32} {sh : Nat → Nat → Int32} {nn : Nat → Nat → Int64} {fo : Nat → Int32} {kp : Int32} {n : Nat} (hN : q 0 1 = nI n) (h8 : n ≤ 8) (hnu : ∀ p, p < n → nu 0 p = nI p) (hok : ∀ p, p < n → okV (vc 0 p)) {p : Int32} : Ci l X yX5_borrow cX5_borrow 7 (some .int) (rmk 5 108) [.ref (ga X 0), .int p] (ch X M q nu vc sb tp by_ sh nn fo kp) (fun z g => z = ansI (S_borrow n (vc 0) p) ∧ ∃ q2 n2 v2 sb2, g = ch X M (va_up q 2 q2) (va_up nu 2 n2) (va_up vc 2 v2) sb2 tp by_ sh nn (fnF fo (S_borrow n (vc 0) p)) kp) := by
  refine ct_i (own := RX5) (lv := [some (.ref (ga X 0)), some (.int p), none, none, none, none, none]) (by decide) rfl (Nat.le_of_ble_eq_true rfl) (Nat.le_of_ble_eq_true rfl) rfl (fun C hC hR => ?_)
  have hix : ∀ P, P < n → pIx n (nI P) = some P := fun P h => pIx_nI h h8
  have hno : ∀ p, (¬ ∃ P, P < n ∧ p = nI P) → pIx n p = none := fun p h => pIx_no h8 h
  have main : ∀ P, P < n → p = nI P → ∀ tk tw, V l X (rmk 5 108) C (trH X M q nu vc sb tp by_ sh nn fo kp (tk) (tw)) 29 [some (.ref (ga X 0)), some (.int (nI P)), some (.int (nI (bstF (fun o => easN (nI P) (vsw (vc 0 P) (vc 0 o))) (fun o => decide (¬ o = P)) (easN (nI P) (vc 0 P)) 0).1)), some (.int (m1N (bstF (fun o => easN (nI P) (vsw (vc 0 P) (vc 0 o))) (fun o => decide (¬ o = P)) (easN (nI P) (vc 0 P)) 0).2)), some (.int (nI 0)), none, none] [] := by
    intro P hP hpe
    have hx := hix P hP
    have hP8 : P < 8 := by omega
    have hs : ∀ o, (bstF (fun o => easN (nI P) (vsw (vc 0 P) (vc 0 o))) (fun o => decide (¬ o = P)) (easN (nI P) (vc 0 P)) o).1 ≤ 201 := bst_le (by first | exact easN_le | decide) (fun _ => easN_le)
    have hb : ∀ k, (bstF (fun o => easN (nI P) (vsw (vc 0 P) (vc 0 o))) (fun o => decide (¬ o = P)) (easN (nI P) (vc 0 P)) n).2 = some k → k < 1000 := fun k h => by have := bst_lt _ _ h; omega
    have loop : ∀ j, j ≤ n → ∀ tk tw, V l X (rmk 5 108) C (trH X M q nu vc sb tp by_ sh nn fo kp (tk) (tw)) 29 [some (.ref (ga X 0)), some (.int (nI P)), some (.int (nI (bstF (fun o => easN (nI P) (vsw (vc 0 P) (vc 0 o))) (fun o => decide (¬ o = P)) (easN (nI P) (vc 0 P)) j).1)), some (.int (m1N (bstF (fun o => easN (nI P) (vsw (vc 0 P) (vc 0 o))) (fun o => decide (¬ o = P)) (easN (nI P) (vc 0 P)) j).2)), some (.int (nI j)), none, none] [] := by
      refine v_up n ?_ ?_
      · intro tk tw
        refine v_iload hC rfl dX5_borrow_29 (q := 31) rfl ?_
        refine v_aload_n hC rfl dX5_borrow_31 (q := 32) rfl ?_
        refine v_get hC fl_X5_12 (k := 0) (by decide) ch_0 rfl dX5_borrow_32 (q := 35) rfl ?_
        refine v_getN hC nl_X5_173 (k := 1 + 11 * 0) (by decide) (ch_q (b := 0) (by decide)) rfl dX5_borrow_35 (q := 38) rfl ?_
        refine v_icmp_ge hC dX5_borrow_38 (t := 88) rfl (q := 41) rfl (fun _ => ?_) (fun h => absurd (by rw [hN]; exact Int32.le_refl _) h)
        refine v_iload_n hC rfl dX5_borrow_88 (q := 89) rfl ?_
        refine v_iconst hC (v := (-1)) rfl dX5_borrow_89 (q := 90) rfl ?_
        refine v_icmp_ne hC dX5_borrow_90 (t := 102) rfl (q := 93) rfl (fun h90 => ?_) (fun h90 => ?_)
        · refine v_iload_n hC rfl dX5_borrow_102 (q := 103) rfl ?_
          refine hR _ _ _ _ ?_ dX5_borrow_103
          have hS : S_borrow n (vc 0) p = orN (bstF (fun o => easN (nI P) (vsw (vc 0 P) (vc 0 o))) (fun o => decide (¬ o = P)) (easN (nI P) (vc 0 P)) n).2 := by simp only [S_borrow, hpe, hx]
          rw [hS]
          cases hB : (bstF (fun o => easN (nI P) (vsw (vc 0 P) (vc 0 o))) (fun o => decide (¬ o = P)) (easN (nI P) (vc 0 P)) n).2 with
          | none => exact absurd (by rw [hB]; rfl) h90
          | some x =>
            refine ⟨?_, q 2, upd (nu 2) 8 tk, va_up (vc 2) 8 tw, sb, ?_⟩
            · rfl
            · rw [up_id]
              rfl
        · refine v_aload_n hC rfl dX5_borrow_93 (q := 94) rfl ?_
          refine v_ldc hC wk_X5_176 dX5_borrow_94 (q := 96) rfl ?_
          refine v_Vi hC lkV_X5_56 (c_X5_finding (n := 3) (by decide)) rfl (by decide) (k := 0) (by decide) ch_0 rfl rfl (Nat.le_of_ble_eq_true rfl) dX5_borrow_96 (q := 99) rfl ?_
          rintro _ _ ⟨rfl, rfl⟩
          refine v_goto hC dX5_borrow_99 (t := 103) rfl ?_
          refine hR _ _ _ _ ?_ dX5_borrow_103
          have hS : S_borrow n (vc 0) p = orN (bstF (fun o => easN (nI P) (vsw (vc 0 P) (vc 0 o))) (fun o => decide (¬ o = P)) (easN (nI P) (vc 0 P)) n).2 := by simp only [S_borrow, hpe, hx]
          rw [hS]
          cases hB : (bstF (fun o => easN (nI P) (vsw (vc 0 P) (vc 0 o))) (fun o => decide (¬ o = P)) (easN (nI P) (vc 0 P)) n).2 with
          | some x =>
            have := hb x hB
            rw [hB] at h90
            exact absurd h90 (m1_ne (by omega))
          | none =>
            refine ⟨?_, q 2, upd (nu 2) 8 tk, va_up (vc 2) 8 tw, sb, ?_⟩
            · rfl
            · rw [up_id]
              rfl
      · intro j hj ih tk tw
        have hj8 : j < 8 := by omega
        refine v_iload hC rfl dX5_borrow_29 (q := 31) rfl ?_
        refine v_aload_n hC rfl dX5_borrow_31 (q := 32) rfl ?_
        refine v_get hC fl_X5_12 (k := 0) (by decide) ch_0 rfl dX5_borrow_32 (q := 35) rfl ?_
        refine v_getN hC nl_X5_173 (k := 1 + 11 * 0) (by decide) (ch_q (b := 0) (by decide)) rfl dX5_borrow_35 (q := 38) rfl ?_
        refine v_icmp_ge hC dX5_borrow_38 (t := 88) rfl (q := 41) rfl (fun h => absurd h (by rw [hN]; exact nI_ge hj (by omega))) (fun _ => ?_)
        refine v_aload_n hC rfl dX5_borrow_41 (q := 42) rfl ?_
        refine v_iload_n hC rfl dX5_borrow_42 (q := 43) rfl ?_
        refine v_Vr hC lkV_X5_148 (c_X5_trialOf_T (P := P) (by omega)) rfl (by decide) (k := 0) (by decide) ch_0 rfl rfl (Nat.le_of_ble_eq_true rfl) dX5_borrow_43 (q := 46) rfl ?_
        rintro _ _ ⟨rfl, rfl⟩
        refine v_astore_5 hC rfl dX5_borrow_46 (q := 48) rfl ?_
        refine v_aload hC rfl dX5_borrow_48 (q := 50) rfl ?_
        refine v_aload_n hC rfl dX5_borrow_50 (q := 51) rfl ?_
        refine v_get hC fl_X5_12 (k := 0) (by decide) ch_0 rfl dX5_borrow_51 (q := 54) rfl ?_
        refine v_getN hC nl_X5_76 (k := 1 + 11 * 0) (by decide) (ch_q (b := 0) (by decide)) rfl dX5_borrow_54 (q := 57) rfl ?_
        refine v_iload hC rfl dX5_borrow_57 (q := 59) rfl ?_
        refine v_aald hC 2 (k := 2 + 11 * 0) (by decide) (ch_p (b := 0) (by decide)) rfl (ix8' (by omega)) (j := j) (nI_clamp (by omega)) rfl dX5_borrow_59 (q := 60) rfl ?_
        refine v_Vv hC lkV_X5_114 (c_X0_takePairOf_T (Q := j) (by omega)) rfl (by decide) (k := 4 + 11 * 2 + 8) (by decide) tr_o8 rfl rfl (Nat.le_of_ble_eq_true rfl) dX5_borrow_60 (q := 63) rfl ?_
        rintro _ rfl
        refine v_aload hC rfl dX5_borrow_63 (q := 65) rfl ?_
        refine v_Si hC lkS_X5_155 (c_X5_daysTillForgiven_T (okV_vsw (hok _ hP) (hok _ hj))) rfl (by decide) rfl (Nat.le_of_ble_eq_true rfl) dX5_borrow_65 (q := 68) rfl ?_
        rintro _ _ ⟨rfl, w65, rfl⟩
        rw [hnu _ hP]
        refine v_istore_6 hC rfl dX5_borrow_68 (q := 70) rfl ?_
        refine v_iload hC rfl dX5_borrow_70 (q := 72) rfl ?_
        refine v_iload_n hC rfl dX5_borrow_72 (q := 73) rfl ?_
        refine v_icmp_ge hC dX5_borrow_73 (t := 82) rfl (q := 76) rfl (fun h73 => ?_) (fun h73 => ?_)
        · refine v_iinc_4 hC (v := _ + 1) rfl rfl dX5_borrow_82 (q := 85) rfl ?_
          refine v_goto hC dX5_borrow_85 (t := 29) rfl ?_
          refine v_weak (lv' := [some (.ref (ga X 0)), some (.int (nI P)), some (.int (nI (bstF (fun o => easN (nI P) (vsw (vc 0 P) (vc 0 o))) (fun o => decide (¬ o = P)) (easN (nI P) (vc 0 P)) j).1)), some (.int (m1N (bstF (fun o => easN (nI P) (vsw (vc 0 P) (vc 0 o))) (fun o => decide (¬ o = P)) (easN (nI P) (vc 0 P)) j).2)), some (.int (nI j + 1)), none, none]) ⟨rfl, rfl, rfl, rfl, rfl, trivial⟩ ?_
          refine v_same rfl ?_ rfl (ih _ _)
          rw [bst_keep (by rintro ⟨-, z⟩; exact Int32.not_lt.mpr h73 ((nI_ltI (Nat.lt_of_le_of_lt easN_le (by decide)) (Nat.lt_of_le_of_lt (hs j) (by decide))).mpr z))]
          simp [nI_1]
        · refine v_iload hC rfl dX5_borrow_76 (q := 78) rfl ?_
          refine v_istore_2 hC rfl dX5_borrow_78 (q := 79) rfl ?_
          refine v_iload hC rfl dX5_borrow_79 (q := 81) rfl ?_
          refine v_istore_3 hC rfl dX5_borrow_81 (q := 82) rfl ?_
          refine v_iinc_4 hC (v := _ + 1) rfl rfl dX5_borrow_82 (q := 85) rfl ?_
          refine v_goto hC dX5_borrow_85 (t := 29) rfl ?_
          have hk := (nI_ltI (Nat.lt_of_le_of_lt easN_le (by decide)) (Nat.lt_of_le_of_lt (hs j) (by decide))).mp (Int32.not_le.mp h73)
          refine v_weak (lv' := [some (.ref (ga X 0)), some (.int (nI P)), some (.int (nI ((fun o => easN (nI P) (vsw (vc 0 P) (vc 0 o))) j))), some (.int (nI j)), some (.int (nI j + 1)), none, none]) ⟨rfl, rfl, rfl, rfl, rfl, trivial⟩ ?_
          refine v_same rfl ?_ rfl (ih _ _)
          rw [bst_take (by simp only [decide_eq_true_eq]; rintro rfl; have := bst_s0 (e := fun o => easN (nI j) (vsw (vc 0 j) (vc 0 o))) (may := fun o => decide (¬ o = j)) (s0 := easN (nI j) (vc 0 j)) j; rw [vsw_id] at hk; omega) hk]
          simp [nI_1, m1N]
    exact loop 0 (Nat.zero_le _)
  refine v_aload_n hC rfl dX5_borrow_0 (q := 1) rfl ?_
  refine v_iload_n hC rfl dX5_borrow_1 (q := 2) rfl ?_
  refine v_Vi hC lkV_X5_73 (c_X5_isThere hN h8) rfl (by decide) (k := 0) (by decide) ch_0 rfl rfl (Nat.le_of_ble_eq_true rfl) dX5_borrow_2 (q := 5) rfl ?_
  rintro _ _ ⟨⟨⟨P2, hP2, rfl⟩, rfl⟩ | ⟨hc2, rfl⟩, rfl⟩
  · refine v_if_ne hC dX5_borrow_5 (t := 15) rfl (q := 8) rfl (fun _ => ?_) (fun h => absurd h (by decide))
    rw [tr0]
    refine v_aload_n hC rfl dX5_borrow_15 (q := 16) rfl ?_
    refine v_iload_n hC rfl dX5_borrow_16 (q := 17) rfl ?_
    refine v_Vr hC lkV_X5_148 (c_X5_trialOf_T (P := P2) (by omega)) rfl (by decide) (k := 0) (by decide) ch_0 rfl rfl (Nat.le_of_ble_eq_true rfl) dX5_borrow_17 (q := 20) rfl ?_
    rintro _ _ ⟨rfl, rfl⟩
    refine v_Si hC lkS_X5_155 (c_X5_daysTillForgiven_T (hok _ hP2)) rfl (by decide) rfl (Nat.le_of_ble_eq_true rfl) dX5_borrow_20 (q := 23) rfl ?_
    rintro _ _ ⟨rfl, w20, rfl⟩
    rw [hnu _ hP2]
    refine v_istore_2 hC rfl dX5_borrow_23 (q := 24) rfl ?_
    refine v_iconst hC (v := (-1)) rfl dX5_borrow_24 (q := 25) rfl ?_
    refine v_istore_3 hC rfl dX5_borrow_25 (q := 26) rfl ?_
    refine v_iconst hC (v := 0) rfl dX5_borrow_26 (q := 27) rfl ?_
    refine v_istore_4 hC rfl dX5_borrow_27 (q := 29) rfl ?_
    exact main P2 hP2 rfl _ _
  · refine v_if_ne hC dX5_borrow_5 (t := 15) rfl (q := 8) rfl (fun h => absurd h (by decide)) (fun _ => ?_)
    refine v_aload_n hC rfl dX5_borrow_8 (q := 9) rfl ?_
    refine v_ldc hC wk_X5_55 dX5_borrow_9 (q := 11) rfl ?_
    refine v_Vi hC lkV_X5_56 (c_X5_finding (n := 0) (by decide)) rfl (by decide) (k := 0) (by decide) ch_0 rfl rfl (Nat.le_of_ble_eq_true rfl) dX5_borrow_11 (q := 14) rfl ?_
    rintro _ _ ⟨rfl, rfl⟩
    refine hR _ _ _ _ ?_ dX5_borrow_14
    refine ⟨?_, q 2, nu 2, vc 2, sb, ?_⟩
    · simp only [S_borrow, ansI, fnF, hno _ hc2]
    · rw [up_id, up_id, up_id]
      simp only [S_borrow, ansI, fnF, hno _ hc2]
