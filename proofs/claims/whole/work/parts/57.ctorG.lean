set_option maxHeartbeats 4000000 in
set_option maxRecDepth 100000 in
theorem c_X5_init_1 {l : Launch} {X : Gx} {a : Nat → Nat} {f : Hp} (hf : f 0 = .inr (4, [.null, .null, .null, .null, .null, .null, .null, .int 0])) (sz : Nat) : Cn l X yX5_init cX5_init 2 3 71 a 1 f 0 sz 46 568 47 (fun a' f' => ∃ b, a' = xA a 1 b ∧ f' = xF (va_up f 0 (gC0 b)) 1 (gT X b)) := by
  refine ct_n (own := RX5) (lv := [some (.ref (a 0)), none]) (by decide) rfl rfl (Nat.le_of_ble_eq_true rfl) (Nat.le_of_ble_eq_true rfl) rfl (fun A C hC hI hE => ?_)
  refine n_self hf ?_
  refine n_aload_n hC rfl dX5_init_0 (q := 1) rfl ?_
  refine n_obj hC wm_X5_3 ⟨Nat.le_of_ble_eq_true rfl, Nat.le_of_ble_eq_true rfl⟩ dX5_init_1 (q := 4) rfl ?_
  refine n_aload_n hC rfl dX5_init_4 (q := 5) rfl ?_
  refine n_new hC (ci := 1) (fs := [.int 0, .int 0, .null, .null]) tyX1 tyX1_ok inX1 wc_X5_9 wn_X1 wi_X1 rfl (fun j hj => by rcases (show j = 0 ∨ j = 1 ∨ j = 2 ∨ j = 3 by omega) with rfl | rfl | rfl | rfl <;> rfl) ⟨Nat.le_of_ble_eq_true rfl, Nat.le_of_ble_eq_true rfl⟩ dX5_init_5 (q := 8) rfl (fun x1 => ?_)
  refine n_dup hC rfl dX5_init_8 (q := 9) rfl ?_
  refine n_callI hC (i := 1) wm_X5_11 wI_X1_init wi_X1 wd_X1_init rfl (by decide +kernel) (fun sz => c_X1_init_2 rfl sz) ⟨Nat.le_of_ble_eq_true rfl, Nat.le_of_ble_eq_true rfl⟩ ⟨Nat.le_of_ble_eq_true rfl, Nat.le_of_ble_eq_true rfl⟩ (Nat.le_of_ble_eq_true rfl) dX5_init_9 (q := 12) rfl ?_
  rintro _ _ ⟨b2, rfl, rfl⟩
  refine n_putF hC hI fl_X5_12 pf_4_0 (i := 0) (by decide) rfl (Nat.le_of_ble_eq_true rfl) rfl rfl dX5_init_12 (q := 15) rfl ?_
  refine n_aload_n hC rfl dX5_init_15 (q := 16) rfl ?_
  refine n_new hC (ci := 1) (fs := [.int 0, .int 0, .null, .null]) tyX1 tyX1_ok inX1 wc_X5_9 wn_X1 wi_X1 rfl (fun j hj => by rcases (show j = 0 ∨ j = 1 ∨ j = 2 ∨ j = 3 by omega) with rfl | rfl | rfl | rfl <;> rfl) ⟨Nat.le_of_ble_eq_true rfl, Nat.le_of_ble_eq_true rfl⟩ dX5_init_16 (q := 19) rfl (fun x12 => ?_)
  refine n_dup hC rfl dX5_init_19 (q := 20) rfl ?_
  refine n_callI hC (i := 12) wm_X5_11 wI_X1_init wi_X1 wd_X1_init rfl (by decide +kernel) (fun sz => c_X1_init_13 rfl sz) ⟨Nat.le_of_ble_eq_true rfl, Nat.le_of_ble_eq_true rfl⟩ ⟨Nat.le_of_ble_eq_true rfl, Nat.le_of_ble_eq_true rfl⟩ (Nat.le_of_ble_eq_true rfl) dX5_init_20 (q := 23) rfl ?_
  rintro _ _ ⟨b13, rfl, rfl⟩
  refine n_putF hC hI fl_X5_16 pf_4_1 (i := 0) (by decide) rfl (Nat.le_of_ble_eq_true rfl) rfl rfl dX5_init_23 (q := 26) rfl ?_
  refine n_aload_n hC rfl dX5_init_26 (q := 27) rfl ?_
  refine n_new hC (ci := 1) (fs := [.int 0, .int 0, .null, .null]) tyX1 tyX1_ok inX1 wc_X5_9 wn_X1 wi_X1 rfl (fun j hj => by rcases (show j = 0 ∨ j = 1 ∨ j = 2 ∨ j = 3 by omega) with rfl | rfl | rfl | rfl <;> rfl) ⟨Nat.le_of_ble_eq_true rfl, Nat.le_of_ble_eq_true rfl⟩ dX5_init_27 (q := 30) rfl (fun x23 => ?_)
  refine n_dup hC rfl dX5_init_30 (q := 31) rfl ?_
  refine n_callI hC (i := 23) wm_X5_11 wI_X1_init wi_X1 wd_X1_init rfl (by decide +kernel) (fun sz => c_X1_init_24 rfl sz) ⟨Nat.le_of_ble_eq_true rfl, Nat.le_of_ble_eq_true rfl⟩ ⟨Nat.le_of_ble_eq_true rfl, Nat.le_of_ble_eq_true rfl⟩ (Nat.le_of_ble_eq_true rfl) dX5_init_31 (q := 34) rfl ?_
  rintro _ _ ⟨b24, rfl, rfl⟩
  refine n_putF hC hI fl_X5_19 pf_4_2 (i := 0) (by decide) rfl (Nat.le_of_ble_eq_true rfl) rfl rfl dX5_init_34 (q := 37) rfl ?_
  refine n_aload_n hC rfl dX5_init_37 (q := 38) rfl ?_
  refine n_new hC (ci := 0) (fs := [.int 0, .int 0, .int 0, .int 0, .int 0, .int 0, .int 0, .int 0]) tyX0 tyX0_ok inX0 wc_X5_22 wn_X0 wi_X0 rfl (fun j hj => by rcases (show j = 0 ∨ j = 1 ∨ j = 2 ∨ j = 3 ∨ j = 4 ∨ j = 5 ∨ j = 6 ∨ j = 7 by omega) with rfl | rfl | rfl | rfl | rfl | rfl | rfl | rfl <;> rfl) ⟨Nat.le_of_ble_eq_true rfl, Nat.le_of_ble_eq_true rfl⟩ dX5_init_38 (q := 41) rfl (fun x34 => ?_)
  refine n_dup hC rfl dX5_init_41 (q := 42) rfl ?_
  refine n_callN hC (i := 34) (fun U h => h.2.2.2.2.1) wI_X0_init wi_X0 wd_X0_init rfl (by decide +kernel) (fun sz => c_X0_init sz) ⟨Nat.le_of_ble_eq_true rfl, Nat.le_of_ble_eq_true rfl⟩ ⟨Nat.le_of_ble_eq_true rfl, Nat.le_of_ble_eq_true rfl⟩ (Nat.le_of_ble_eq_true rfl) dX5_init_42 (q := 45) rfl ?_
  rintro _ _ ⟨rfl, rfl⟩
  refine n_putF hC hI fl_X5_25 pf_4_3 (i := 0) (by decide) rfl (Nat.le_of_ble_eq_true rfl) rfl rfl dX5_init_45 (q := 48) rfl ?_
  refine n_aload_n hC rfl dX5_init_48 (q := 49) rfl ?_
  refine n_new hC (ci := 3) (fs := [.null, .int 0, .int 0, .int 0, .int 0]) tyX3 tyX3_ok inX3 wc_X5_29 wn_X3 wi_X3 rfl (fun j hj => by rcases (show j = 0 ∨ j = 1 ∨ j = 2 ∨ j = 3 ∨ j = 4 by omega) with rfl | rfl | rfl | rfl | rfl <;> rfl) ⟨Nat.le_of_ble_eq_true rfl, Nat.le_of_ble_eq_true rfl⟩ dX5_init_49 (q := 52) rfl (fun x35 => ?_)
  refine n_dup hC rfl dX5_init_52 (q := 53) rfl ?_
  refine n_callN hC (i := 35) (fun U h => h.2.2.2.2.2.1) wI_X3_init wi_X3 wd_X3_init rfl (by decide +kernel) (fun sz => c_X3_init_36 rfl sz) ⟨Nat.le_of_ble_eq_true rfl, Nat.le_of_ble_eq_true rfl⟩ ⟨Nat.le_of_ble_eq_true rfl, Nat.le_of_ble_eq_true rfl⟩ (Nat.le_of_ble_eq_true rfl) dX5_init_53 (q := 56) rfl ?_
  rintro _ _ ⟨b36, rfl, rfl⟩
  refine n_putF hC hI fl_X5_32 pf_4_4 (i := 0) (by decide) rfl (Nat.le_of_ble_eq_true rfl) rfl rfl dX5_init_56 (q := 59) rfl ?_
  refine n_aload_n hC rfl dX5_init_59 (q := 60) rfl ?_
  refine n_iconst hC (v := 4) rfl dX5_init_60 (q := 61) rfl ?_
  refine n_anew hC 3 rfl wc_X5_36 (fun U h => h.2.2.1) (N := 4) (by decide) rfl (Nat.le_of_ble_eq_true rfl) ⟨Nat.le_of_ble_eq_true rfl, Nat.le_of_ble_eq_true rfl⟩ dX5_init_61 (q := 64) rfl (fun x37 => ?_)
  refine n_putF hC hI fl_X5_38 pf_4_5 (i := 0) (by decide) rfl (Nat.le_of_ble_eq_true rfl) rfl rfl dX5_init_64 (q := 67) rfl ?_
  refine n_aload_n hC rfl dX5_init_67 (q := 68) rfl ?_
  refine n_bipush hC (v := 7) rfl dX5_init_68 (q := 70) rfl ?_
  refine n_newI hC (N := 7) (by decide) rfl (Nat.le_of_ble_eq_true rfl) ⟨Nat.le_of_ble_eq_true rfl, Nat.le_of_ble_eq_true rfl⟩ dX5_init_70 (q := 72) rfl (fun x38 => ?_)
  refine n_putF hC hI fl_X5_42 pf_4_6 (i := 0) (by decide) rfl (Nat.le_of_ble_eq_true rfl) rfl rfl dX5_init_72 (q := 75) rfl ?_
  refine n_aload_n hC rfl dX5_init_75 (q := 76) rfl ?_
  refine n_iconst hC (v := 0) rfl dX5_init_76 (q := 77) rfl ?_
  refine n_put hC fl_X5_46 pt_4_7 (i := 0) (by decide) rfl (Nat.le_of_ble_eq_true rfl) rfl rfl dX5_init_77 (q := 80) rfl ?_
  refine n_iconst hC (v := 0) rfl dX5_init_80 (q := 81) rfl ?_
  refine n_istore_1 hC rfl dX5_init_81 (q := 82) rfl ?_
  refine n_iload_n hC rfl dX5_init_82 (q := 83) rfl ?_
  refine n_iconst hC (v := 4) rfl dX5_init_83 (q := 84) rfl ?_
  refine n_icmp_ge hC dX5_init_84 (t := 106) rfl (q := 87) rfl (fun h => absurd h (by decide)) (fun _ => ?_)
  refine n_aload_n hC rfl dX5_init_87 (q := 88) rfl ?_
  refine n_get hC fl_X5_38 (i := 0) (by decide) rfl rfl dX5_init_88 (q := 91) rfl ?_
  refine n_iload_n hC rfl dX5_init_91 (q := 92) rfl ?_
  refine n_new hC (ci := 2) (fs := [.int 0, .int 0, .null]) tyX2 tyX2_ok inX2 wc_X5_36 wn_X2 wi_X2 rfl (fun j hj => by rcases (show j = 0 ∨ j = 1 ∨ j = 2 by omega) with rfl | rfl | rfl <;> rfl) ⟨Nat.le_of_ble_eq_true rfl, Nat.le_of_ble_eq_true rfl⟩ dX5_init_92 (q := 95) rfl (fun x39 => ?_)
  refine n_dup hC rfl dX5_init_95 (q := 96) rfl ?_
  refine n_callN hC (i := 39) (fun U h => h.2.2.2.2.2.2) wI_X2_init wi_X2 wd_X2_init rfl (by decide +kernel) (fun sz => c_X2_init_40 rfl sz) ⟨Nat.le_of_ble_eq_true rfl, Nat.le_of_ble_eq_true rfl⟩ ⟨Nat.le_of_ble_eq_true rfl, Nat.le_of_ble_eq_true rfl⟩ (Nat.le_of_ble_eq_true rfl) dX5_init_96 (q := 99) rfl ?_
  rintro _ _ ⟨b40, rfl, rfl⟩
  refine n_aast hC 3 (i1 := 37) (i2 := 39) (j := 0) (by decide) rfl rfl (by decide) rfl (ci := 2) rfl (vp_l (by decide)) rfl dX5_init_99 (q := 100) rfl ?_
  refine n_iinc_1 hC (v := 1) rfl (by decide) dX5_init_100 (q := 103) rfl ?_
  refine n_goto hC dX5_init_103 (t := 82) rfl ?_
  refine n_iload_n hC rfl dX5_init_82 (q := 83) rfl ?_
  refine n_iconst hC (v := 4) rfl dX5_init_83 (q := 84) rfl ?_
  refine n_icmp_ge hC dX5_init_84 (t := 106) rfl (q := 87) rfl (fun h => absurd h (by decide)) (fun _ => ?_)
  refine n_aload_n hC rfl dX5_init_87 (q := 88) rfl ?_
  refine n_get hC fl_X5_38 (i := 0) (by decide) rfl rfl dX5_init_88 (q := 91) rfl ?_
  refine n_iload_n hC rfl dX5_init_91 (q := 92) rfl ?_
  refine n_new hC (ci := 2) (fs := [.int 0, .int 0, .null]) tyX2 tyX2_ok inX2 wc_X5_36 wn_X2 wi_X2 rfl (fun j hj => by rcases (show j = 0 ∨ j = 1 ∨ j = 2 by omega) with rfl | rfl | rfl <;> rfl) ⟨Nat.le_of_ble_eq_true rfl, Nat.le_of_ble_eq_true rfl⟩ dX5_init_92 (q := 95) rfl (fun x41 => ?_)
  refine n_dup hC rfl dX5_init_95 (q := 96) rfl ?_
  refine n_callN hC (i := 41) (fun U h => h.2.2.2.2.2.2) wI_X2_init wi_X2 wd_X2_init rfl (by decide +kernel) (fun sz => c_X2_init_42 rfl sz) ⟨Nat.le_of_ble_eq_true rfl, Nat.le_of_ble_eq_true rfl⟩ ⟨Nat.le_of_ble_eq_true rfl, Nat.le_of_ble_eq_true rfl⟩ (Nat.le_of_ble_eq_true rfl) dX5_init_96 (q := 99) rfl ?_
  rintro _ _ ⟨b42, rfl, rfl⟩
  refine n_aast hC 3 (i1 := 37) (i2 := 41) (j := 1) (by decide) rfl rfl (by decide) rfl (ci := 2) rfl (vp_l (by decide)) rfl dX5_init_99 (q := 100) rfl ?_
  refine n_iinc_1 hC (v := 2) rfl (by decide) dX5_init_100 (q := 103) rfl ?_
  refine n_goto hC dX5_init_103 (t := 82) rfl ?_
  refine n_iload_n hC rfl dX5_init_82 (q := 83) rfl ?_
  refine n_iconst hC (v := 4) rfl dX5_init_83 (q := 84) rfl ?_
  refine n_icmp_ge hC dX5_init_84 (t := 106) rfl (q := 87) rfl (fun h => absurd h (by decide)) (fun _ => ?_)
  refine n_aload_n hC rfl dX5_init_87 (q := 88) rfl ?_
  refine n_get hC fl_X5_38 (i := 0) (by decide) rfl rfl dX5_init_88 (q := 91) rfl ?_
  refine n_iload_n hC rfl dX5_init_91 (q := 92) rfl ?_
  refine n_new hC (ci := 2) (fs := [.int 0, .int 0, .null]) tyX2 tyX2_ok inX2 wc_X5_36 wn_X2 wi_X2 rfl (fun j hj => by rcases (show j = 0 ∨ j = 1 ∨ j = 2 by omega) with rfl | rfl | rfl <;> rfl) ⟨Nat.le_of_ble_eq_true rfl, Nat.le_of_ble_eq_true rfl⟩ dX5_init_92 (q := 95) rfl (fun x43 => ?_)
  refine n_dup hC rfl dX5_init_95 (q := 96) rfl ?_
  refine n_callN hC (i := 43) (fun U h => h.2.2.2.2.2.2) wI_X2_init wi_X2 wd_X2_init rfl (by decide +kernel) (fun sz => c_X2_init_44 rfl sz) ⟨Nat.le_of_ble_eq_true rfl, Nat.le_of_ble_eq_true rfl⟩ ⟨Nat.le_of_ble_eq_true rfl, Nat.le_of_ble_eq_true rfl⟩ (Nat.le_of_ble_eq_true rfl) dX5_init_96 (q := 99) rfl ?_
  rintro _ _ ⟨b44, rfl, rfl⟩
  refine n_aast hC 3 (i1 := 37) (i2 := 43) (j := 2) (by decide) rfl rfl (by decide) rfl (ci := 2) rfl (vp_l (by decide)) rfl dX5_init_99 (q := 100) rfl ?_
  refine n_iinc_1 hC (v := 3) rfl (by decide) dX5_init_100 (q := 103) rfl ?_
  refine n_goto hC dX5_init_103 (t := 82) rfl ?_
  refine n_iload_n hC rfl dX5_init_82 (q := 83) rfl ?_
  refine n_iconst hC (v := 4) rfl dX5_init_83 (q := 84) rfl ?_
  refine n_icmp_ge hC dX5_init_84 (t := 106) rfl (q := 87) rfl (fun h => absurd h (by decide)) (fun _ => ?_)
  refine n_aload_n hC rfl dX5_init_87 (q := 88) rfl ?_
  refine n_get hC fl_X5_38 (i := 0) (by decide) rfl rfl dX5_init_88 (q := 91) rfl ?_
  refine n_iload_n hC rfl dX5_init_91 (q := 92) rfl ?_
  refine n_new hC (ci := 2) (fs := [.int 0, .int 0, .null]) tyX2 tyX2_ok inX2 wc_X5_36 wn_X2 wi_X2 rfl (fun j hj => by rcases (show j = 0 ∨ j = 1 ∨ j = 2 by omega) with rfl | rfl | rfl <;> rfl) ⟨Nat.le_of_ble_eq_true rfl, Nat.le_of_ble_eq_true rfl⟩ dX5_init_92 (q := 95) rfl (fun x45 => ?_)
  refine n_dup hC rfl dX5_init_95 (q := 96) rfl ?_
  refine n_callN hC (i := 45) (fun U h => h.2.2.2.2.2.2) wI_X2_init wi_X2 wd_X2_init rfl (by decide +kernel) (fun sz => c_X2_init_46 rfl sz) ⟨Nat.le_of_ble_eq_true rfl, Nat.le_of_ble_eq_true rfl⟩ ⟨Nat.le_of_ble_eq_true rfl, Nat.le_of_ble_eq_true rfl⟩ (Nat.le_of_ble_eq_true rfl) dX5_init_96 (q := 99) rfl ?_
  rintro _ _ ⟨b46, rfl, rfl⟩
  refine n_aast hC 3 (i1 := 37) (i2 := 45) (j := 3) (by decide) rfl rfl (by decide) rfl (ci := 2) rfl (vp_l (by decide)) rfl dX5_init_99 (q := 100) rfl ?_
  refine n_iinc_1 hC (v := 4) rfl (by decide) dX5_init_100 (q := 103) rfl ?_
  refine n_goto hC dX5_init_103 (t := 82) rfl ?_
  refine n_iload_n hC rfl dX5_init_82 (q := 83) rfl ?_
  refine n_iconst hC (v := 4) rfl dX5_init_83 (q := 84) rfl ?_
  refine n_icmp_ge hC dX5_init_84 (t := 106) rfl (q := 87) rfl (fun _ => ?_) (fun h => absurd (by decide) h)
  exact n_eq (a' := xA a 1 (va_up (va_up (va_up (va_up (va_up (va_up (va_up (va_up (va_up (va_up (va_up (va_up (va_up (va_up (va_up (va_up (va_up (va_up (va_up (va_up (va_up (va_up (va_up (va_up (va_up (va_up (va_up (va_up (va_up (va_up (va_up (va_up (va_up (va_up (va_up (va_up (va_up (va_up (va_up (va_up (va_up (va_up (va_up (va_up (va_up (va_up (fun _ => 0) 0 x1) 1 (b2 0)) 2 (b2 1)) 3 (b2 2)) 4 (b2 3)) 5 (b2 4)) 6 (b2 5)) 7 (b2 6)) 8 (b2 7)) 9 (b2 8)) 10 (b2 9)) 11 x12) 12 (b13 0)) 13 (b13 1)) 14 (b13 2)) 15 (b13 3)) 16 (b13 4)) 17 (b13 5)) 18 (b13 6)) 19 (b13 7)) 20 (b13 8)) 21 (b13 9)) 22 x23) 23 (b24 0)) 24 (b24 1)) 25 (b24 2)) 26 (b24 3)) 27 (b24 4)) 28 (b24 5)) 29 (b24 6)) 30 (b24 7)) 31 (b24 8)) 32 (b24 9)) 33 x34) 34 x35) 35 (b36 0)) 36 x37) 37 x38) 38 x39) 39 (b40 0)) 40 x41) 41 (b42 0)) 42 x43) 43 (b44 0)) 44 x45) 45 (b46 0))) (f' := xF (va_up f 0 (gC0 (va_up (va_up (va_up (va_up (va_up (va_up (va_up (va_up (va_up (va_up (va_up (va_up (va_up (va_up (va_up (va_up (va_up (va_up (va_up (va_up (va_up (va_up (va_up (va_up (va_up (va_up (va_up (va_up (va_up (va_up (va_up (va_up (va_up (va_up (va_up (va_up (va_up (va_up (va_up (va_up (va_up (va_up (va_up (va_up (va_up (va_up (fun _ => 0) 0 x1) 1 (b2 0)) 2 (b2 1)) 3 (b2 2)) 4 (b2 3)) 5 (b2 4)) 6 (b2 5)) 7 (b2 6)) 8 (b2 7)) 9 (b2 8)) 10 (b2 9)) 11 x12) 12 (b13 0)) 13 (b13 1)) 14 (b13 2)) 15 (b13 3)) 16 (b13 4)) 17 (b13 5)) 18 (b13 6)) 19 (b13 7)) 20 (b13 8)) 21 (b13 9)) 22 x23) 23 (b24 0)) 24 (b24 1)) 25 (b24 2)) 26 (b24 3)) 27 (b24 4)) 28 (b24 5)) 29 (b24 6)) 30 (b24 7)) 31 (b24 8)) 32 (b24 9)) 33 x34) 34 x35) 35 (b36 0)) 36 x37) 37 x38) 38 x39) 39 (b40 0)) 40 x41) 41 (b42 0)) 42 x43) 43 (b44 0)) 44 x45) 45 (b46 0)))) 1 (gT X (va_up (va_up (va_up (va_up (va_up (va_up (va_up (va_up (va_up (va_up (va_up (va_up (va_up (va_up (va_up (va_up (va_up (va_up (va_up (va_up (va_up (va_up (va_up (va_up (va_up (va_up (va_up (va_up (va_up (va_up (va_up (va_up (va_up (va_up (va_up (va_up (va_up (va_up (va_up (va_up (va_up (va_up (va_up (va_up (va_up (va_up (fun _ => 0) 0 x1) 1 (b2 0)) 2 (b2 1)) 3 (b2 2)) 4 (b2 3)) 5 (b2 4)) 6 (b2 5)) 7 (b2 6)) 8 (b2 7)) 9 (b2 8)) 10 (b2 9)) 11 x12) 12 (b13 0)) 13 (b13 1)) 14 (b13 2)) 15 (b13 3)) 16 (b13 4)) 17 (b13 5)) 18 (b13 6)) 19 (b13 7)) 20 (b13 8)) 21 (b13 9)) 22 x23) 23 (b24 0)) 24 (b24 1)) 25 (b24 2)) 26 (b24 3)) 27 (b24 4)) 28 (b24 5)) 29 (b24 6)) 30 (b24 7)) 31 (b24 8)) 32 (b24 9)) 33 x34) 34 x35) 35 (b36 0)) 36 x37) 37 x38) 38 x39) 39 (b40 0)) 40 x41) 41 (b42 0)) 42 x43) 43 (b44 0)) 44 x45) 45 (b46 0)))) (gn_ext (fun k hk => match k, hk with | 0, _ => ⟨rfl, rfl⟩ | 1, _ => ⟨rfl, rfl⟩ | 2, _ => ⟨rfl, rfl⟩ | 3, _ => ⟨rfl, rfl⟩ | 4, _ => ⟨rfl, rfl⟩ | 5, _ => ⟨rfl, rfl⟩ | 6, _ => ⟨rfl, rfl⟩ | 7, _ => ⟨rfl, rfl⟩ | 8, _ => ⟨rfl, rfl⟩ | 9, _ => ⟨rfl, rfl⟩ | 10, _ => ⟨rfl, rfl⟩ | 11, _ => ⟨rfl, rfl⟩ | 12, _ => ⟨rfl, rfl⟩ | 13, _ => ⟨rfl, rfl⟩ | 14, _ => ⟨rfl, rfl⟩ | 15, _ => ⟨rfl, rfl⟩ | 16, _ => ⟨rfl, rfl⟩ | 17, _ => ⟨rfl, rfl⟩ | 18, _ => ⟨rfl, rfl⟩ | 19, _ => ⟨rfl, rfl⟩ | 20, _ => ⟨rfl, rfl⟩ | 21, _ => ⟨rfl, rfl⟩ | 22, _ => ⟨rfl, rfl⟩ | 23, _ => ⟨rfl, rfl⟩ | 24, _ => ⟨rfl, rfl⟩ | 25, _ => ⟨rfl, rfl⟩ | 26, _ => ⟨rfl, rfl⟩ | 27, _ => ⟨rfl, rfl⟩ | 28, _ => ⟨rfl, rfl⟩ | 29, _ => ⟨rfl, rfl⟩ | 30, _ => ⟨rfl, rfl⟩ | 31, _ => ⟨rfl, rfl⟩ | 32, _ => ⟨rfl, rfl⟩ | 33, _ => ⟨rfl, rfl⟩ | 34, _ => ⟨rfl, rfl⟩ | 35, _ => ⟨rfl, rfl⟩ | 36, _ => ⟨rfl, rfl⟩ | 37, _ => ⟨rfl, rfl⟩ | 38, _ => ⟨rfl, rfl⟩ | 39, _ => ⟨rfl, rfl⟩ | 40, _ => ⟨rfl, rfl⟩ | 41, _ => ⟨rfl, rfl⟩ | 42, _ => ⟨rfl, rfl⟩ | 43, _ => ⟨rfl, rfl⟩ | 44, _ => ⟨rfl, rfl⟩ | 45, _ => ⟨rfl, rfl⟩ | 46, _ => ⟨rfl, rfl⟩ | k + 47, h => absurd h (by omega))) (hE _ _ _ _ ⟨(va_up (va_up (va_up (va_up (va_up (va_up (va_up (va_up (va_up (va_up (va_up (va_up (va_up (va_up (va_up (va_up (va_up (va_up (va_up (va_up (va_up (va_up (va_up (va_up (va_up (va_up (va_up (va_up (va_up (va_up (va_up (va_up (va_up (va_up (va_up (va_up (va_up (va_up (va_up (va_up (va_up (va_up (va_up (va_up (va_up (va_up (fun _ => 0) 0 x1) 1 (b2 0)) 2 (b2 1)) 3 (b2 2)) 4 (b2 3)) 5 (b2 4)) 6 (b2 5)) 7 (b2 6)) 8 (b2 7)) 9 (b2 8)) 10 (b2 9)) 11 x12) 12 (b13 0)) 13 (b13 1)) 14 (b13 2)) 15 (b13 3)) 16 (b13 4)) 17 (b13 5)) 18 (b13 6)) 19 (b13 7)) 20 (b13 8)) 21 (b13 9)) 22 x23) 23 (b24 0)) 24 (b24 1)) 25 (b24 2)) 26 (b24 3)) 27 (b24 4)) 28 (b24 5)) 29 (b24 6)) 30 (b24 7)) 31 (b24 8)) 32 (b24 9)) 33 x34) 34 x35) 35 (b36 0)) 36 x37) 37 x38) 38 x39) 39 (b40 0)) 40 x41) 41 (b42 0)) 42 x43) 43 (b44 0)) 44 x45) 45 (b46 0)), rfl, rfl⟩ dX5_init_106)
