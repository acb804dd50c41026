theorem held_in {x : Int32} : 0 ≤ held x 0 99 ∧ held x 0 99 ≤ 99 := by
  unfold held
  split
  · decide
  · split
    · decide
    · constructor
      · exact Int32.not_lt.mp (by assumption)
      · exact Int32.not_lt.mp (by assumption)
theorem okV_day {k : Int32} {v : Nat → Int32} (hv : okV v) : okV (dayF k v) := by
  obtain ⟨h0, h1, h2, h3, h4, h5, h6⟩ := hv
  have e0 : dayF k v 0 = v 0 := by simp [dayF, upd]
  have e1 : dayF k v 1 = dayG k v := by simp [dayF, upd]
  have e2 : dayF k v 2 = v 2 := by simp [dayF, upd]
  have e3 : dayF k v 3 = v 3 := by simp [dayF, upd]
  have e4 : dayF k v 4 = v 4 := by simp [dayF, upd]
  have e5 : dayF k v 5 = v 5 := by simp [dayF, upd]
  have e6 : dayF k v 6 = dayW k v := by simp [dayF, upd]
  unfold okV
  rw [e0, e1, e2, e3, e4, e5, e6]
  exact ⟨h0, held_in, h2, h3, h4, h5, held_in⟩
theorem okV_it {k : Int32} {v : Nat → Int32} (hv : okV v) : ∀ j, okV (itD k v j)
  | 0 => hv
  | j + 1 => okV_day (okV_it hv j)
theorem wr_same : ∀ w : Fin 100, held (nI w.val + 0) 0 99 = nI w.val ∧ (nI w.val < 99 → held (nI w.val + 1) 0 99 = nI w.val + 1) ∧ (99 ≤ nI w.val → held (nI w.val + 1) 0 99 = nI w.val) := by decide +kernel
theorem wr_of {w : Int32} (h0 : 0 ≤ w) (h1 : w ≤ 99) : held (w + 0) 0 99 = w ∧ (w < 99 → held (w + 1) 0 99 = w + 1) ∧ (99 ≤ w → held (w + 1) 0 99 = w) := by
  obtain ⟨G, -, hG, rfl⟩ := w_of' (a := 0) (N := 99) (by decide) (by decide) h0 h1
  exact wr_same ⟨G, by omega⟩
theorem upd_id {v : Nat → Int32} {j : Nat} {x : Int32} (h : x = v j) : upd v j x = v := by
  funext i
  simp only [upd]
  by_cases e : i = j
  · subst e; simp [h]
  · rw [if_neg e]
def grdV (v : Nat → Int32) : Nat → Int32 := upd (upd (upd (upd v 5 (grindF v)) 4 (v 2)) 6 0) 3 0
def newV (kd g a_ : Int32) : Nat → Int32 := fun j => ([kd, g, a_, 0, -1, 0, 0] : List Int32).getD j 0
theorem grindF_4 {v : Nat → Int32} {x : Int32} : grindF (upd v 4 x) = grindF v := by simp [grindF, upd]
theorem okV_4 {v : Nat → Int32} {x : Int32} (hv : okV v) (hx : -1 ≤ x) : okV (upd v 4 x) := by
  obtain ⟨h0, h1, h2, h3, h4, h5, h6⟩ := hv
  exact ⟨h0, h1, h2, h3, hx, h5, h6⟩
def tolF (k : Int32) (v : Nat → Int32) (w : Int32) : Int32 := if w = 0 then v 0 else if w = 1 then v 1 else if w = 2 then v 2 else if w = 3 then v 3 else if w = 4 then v 4 else if w = 5 then v 5 else if w = 6 then v 6 else if w = 7 then grindF v else if w = 8 then easeF k v else if w = 9 then growF k v else -1000000001
theorem sw_out_0_9 {x : Int32} (h0 : ¬ x = 0) (h1 : ¬ x = 1) (h2 : ¬ x = 2) (h3 : ¬ x = 3) (h4 : ¬ x = 4) (h5 : ¬ x = 5) (h6 : ¬ x = 6) (h7 : ¬ x = 7) (h8 : ¬ x = 8) (h9 : ¬ x = 9) : x.toInt < 0 ∨ 9 < x.toInt := by
  have g0 : ¬ x.toInt = 0 := fun e => h0 (Int32.toInt_inj.mp e)
  have g1 : ¬ x.toInt = 1 := fun e => h1 (Int32.toInt_inj.mp e)
  have g2 : ¬ x.toInt = 2 := fun e => h2 (Int32.toInt_inj.mp e)
  have g3 : ¬ x.toInt = 3 := fun e => h3 (Int32.toInt_inj.mp e)
  have g4 : ¬ x.toInt = 4 := fun e => h4 (Int32.toInt_inj.mp e)
  have g5 : ¬ x.toInt = 5 := fun e => h5 (Int32.toInt_inj.mp e)
  have g6 : ¬ x.toInt = 6 := fun e => h6 (Int32.toInt_inj.mp e)
  have g7 : ¬ x.toInt = 7 := fun e => h7 (Int32.toInt_inj.mp e)
  have g8 : ¬ x.toInt = 8 := fun e => h8 (Int32.toInt_inj.mp e)
  have g9 : ¬ x.toInt = 9 := fun e => h9 (Int32.toInt_inj.mp e)
  omega
theorem sw_out_1_6 {x : Int32} (h1 : ¬ x = 1) (h2 : ¬ x = 2) (h3 : ¬ x = 3) (h4 : ¬ x = 4) (h5 : ¬ x = 5) (h6 : ¬ x = 6) : x.toInt < 1 ∨ 6 < x.toInt := by
  have g1 : ¬ x.toInt = 1 := fun e => h1 (Int32.toInt_inj.mp e)
  have g2 : ¬ x.toInt = 2 := fun e => h2 (Int32.toInt_inj.mp e)
  have g3 : ¬ x.toInt = 3 := fun e => h3 (Int32.toInt_inj.mp e)
  have g4 : ¬ x.toInt = 4 := fun e => h4 (Int32.toInt_inj.mp e)
  have g5 : ¬ x.toInt = 5 := fun e => h5 (Int32.toInt_inj.mp e)
  have g6 : ¬ x.toInt = 6 := fun e => h6 (Int32.toInt_inj.mp e)
  omega
set_option maxHeartbeats 4000000 in
set_option maxRecDepth 100000 in
theorem c_X0_told {l : Launch} {X : Gx} {f : Hp} {q : Nat} (hq : q < 56) {k : Int32} {v : Nat → Int32} (hv : okV v) {w : Int32} : Ci l X yX0_told cX0_told 2 (some .int) (rmk 3 65) [.ref (ga X q), .int w] (va_up f q (oneV k v)) (fun z g => z = tolF k v w ∧ g = va_up f q (oneV k v)) := by
  refine ct_i (own := RX0) (lv := [some (.ref (ga X q)), some (.int w)]) (by decide) rfl (Nat.le_of_ble_eq_true rfl) (Nat.le_of_ble_eq_true rfl) rfl (fun C hC hR => ?_)
  refine v_iload_n hC rfl dX0_told_0 (q := 1) rfl ?_
  refine v_em 0 (fun hs1_0 => ?_) (fun hs1_0 => ?_)
  · refine v_tin hC dX0_told_1 (by decide) (by decide) rfl (t := 56) rfl ?_
    refine v_aload_n hC rfl dX0_told_56 (q := 57) rfl ?_
    refine v_get hC fl_X0_15 (k := q) hq (va_up_self _ _ _) rfl dX0_told_57 (q := 60) rfl ?_
    refine hR _ _ _ _ ?_ dX0_told_60
    refine ⟨?_, rfl⟩
    simp [tolF, *]
  refine v_em 1 (fun hs1_1 => ?_) (fun hs1_1 => ?_)
  · refine v_tin hC dX0_told_1 (by decide) (by decide) rfl (t := 61) rfl ?_
    refine v_aload_n hC rfl dX0_told_61 (q := 62) rfl ?_
    refine v_get hC fl_X0_18 (k := q) hq (va_up_self _ _ _) rfl dX0_told_62 (q := 65) rfl ?_
    refine hR _ _ _ _ ?_ dX0_told_65
    refine ⟨?_, rfl⟩
    simp [tolF, *]
  refine v_em 2 (fun hs1_2 => ?_) (fun hs1_2 => ?_)
  · refine v_tin hC dX0_told_1 (by decide) (by decide) rfl (t := 66) rfl ?_
    refine v_aload_n hC rfl dX0_told_66 (q := 67) rfl ?_
    refine v_get hC fl_X0_21 (k := q) hq (va_up_self _ _ _) rfl dX0_told_67 (q := 70) rfl ?_
    refine hR _ _ _ _ ?_ dX0_told_70
    refine ⟨?_, rfl⟩
    simp [tolF, *]
  refine v_em 3 (fun hs1_3 => ?_) (fun hs1_3 => ?_)
  · refine v_tin hC dX0_told_1 (by decide) (by decide) rfl (t := 71) rfl ?_
    refine v_aload_n hC rfl dX0_told_71 (q := 72) rfl ?_
    refine v_get hC fl_X0_24 (k := q) hq (va_up_self _ _ _) rfl dX0_told_72 (q := 75) rfl ?_
    refine hR _ _ _ _ ?_ dX0_told_75
    refine ⟨?_, rfl⟩
    simp [tolF, *]
  refine v_em 4 (fun hs1_4 => ?_) (fun hs1_4 => ?_)
  · refine v_tin hC dX0_told_1 (by decide) (by decide) rfl (t := 76) rfl ?_
    refine v_aload_n hC rfl dX0_told_76 (q := 77) rfl ?_
    refine v_get hC fl_X0_27 (k := q) hq (va_up_self _ _ _) rfl dX0_told_77 (q := 80) rfl ?_
    refine hR _ _ _ _ ?_ dX0_told_80
    refine ⟨?_, rfl⟩
    simp [tolF, *]
  refine v_em 5 (fun hs1_5 => ?_) (fun hs1_5 => ?_)
  · refine v_tin hC dX0_told_1 (by decide) (by decide) rfl (t := 81) rfl ?_
    refine v_aload_n hC rfl dX0_told_81 (q := 82) rfl ?_
    refine v_get hC fl_X0_30 (k := q) hq (va_up_self _ _ _) rfl dX0_told_82 (q := 85) rfl ?_
    refine hR _ _ _ _ ?_ dX0_told_85
    refine ⟨?_, rfl⟩
    simp [tolF, *]
  refine v_em 6 (fun hs1_6 => ?_) (fun hs1_6 => ?_)
  · refine v_tin hC dX0_told_1 (by decide) (by decide) rfl (t := 86) rfl ?_
    refine v_aload_n hC rfl dX0_told_86 (q := 87) rfl ?_
    refine v_get hC fl_X0_33 (k := q) hq (va_up_self _ _ _) rfl dX0_told_87 (q := 90) rfl ?_
    refine hR _ _ _ _ ?_ dX0_told_90
    refine ⟨?_, rfl⟩
    simp [tolF, *]
  refine v_em 7 (fun hs1_7 => ?_) (fun hs1_7 => ?_)
  · refine v_tin hC dX0_told_1 (by decide) (by decide) rfl (t := 91) rfl ?_
    refine v_aload_n hC rfl dX0_told_91 (q := 92) rfl ?_
    refine v_Vi hC lkV_X0_40 (c_X0_grinding hq hv) rfl (by decide) (k := q) hq (va_up_self _ _ _) rfl rfl (Nat.le_of_ble_eq_true rfl) dX0_told_92 (q := 95) rfl ?_
    rintro _ _ ⟨rfl, rfl⟩
    refine hR _ _ _ _ ?_ dX0_told_95
    refine ⟨?_, rfl⟩
    simp [tolF, *]
  refine v_em 8 (fun hs1_8 => ?_) (fun hs1_8 => ?_)
  · refine v_tin hC dX0_told_1 (by decide) (by decide) rfl (t := 96) rfl ?_
    refine v_aload_n hC rfl dX0_told_96 (q := 97) rfl ?_
    refine v_aload_n hC rfl dX0_told_97 (q := 98) rfl ?_
    refine v_Vi hC lkV_X0_44 (c_X0_sharpnessAtItsOne hq hv) rfl (by decide) (k := q) hq (va_up_self _ _ _) rfl rfl (Nat.le_of_ble_eq_true rfl) dX0_told_98 (q := 101) rfl ?_
    rintro _ _ ⟨rfl, rfl⟩
    refine v_Vi hC lkV_X0_47 (c_X0_forgiving hq) rfl (by decide) (k := q) hq (va_up_self _ _ _) rfl rfl (Nat.le_of_ble_eq_true rfl) dX0_told_101 (q := 104) rfl ?_
    rintro _ _ ⟨rfl, rfl⟩
    refine hR _ _ _ _ ?_ dX0_told_104
    refine ⟨?_, rfl⟩
    simp [tolF, *]
  refine v_em 9 (fun hs1_9 => ?_) (fun hs1_9 => ?_)
  · refine v_tin hC dX0_told_1 (by decide) (by decide) rfl (t := 105) rfl ?_
    refine v_aload_n hC rfl dX0_told_105 (q := 106) rfl ?_
    refine v_aload_n hC rfl dX0_told_106 (q := 107) rfl ?_
    refine v_Vi hC lkV_X0_44 (c_X0_sharpnessAtItsOne hq hv) rfl (by decide) (k := q) hq (va_up_self _ _ _) rfl rfl (Nat.le_of_ble_eq_true rfl) dX0_told_107 (q := 110) rfl ?_
    rintro _ _ ⟨rfl, rfl⟩
    refine v_Vi hC lkV_X0_51 (c_X0_growing hq) rfl (by decide) (k := q) hq (va_up_self _ _ _) rfl rfl (Nat.le_of_ble_eq_true rfl) dX0_told_110 (q := 113) rfl ?_
    rintro _ _ ⟨rfl, rfl⟩
    refine hR _ _ _ _ ?_ dX0_told_113
    refine ⟨?_, rfl⟩
    simp [tolF, *]
  refine v_tout hC dX0_told_1 (sw_out_0_9 hs1_0 hs1_1 hs1_2 hs1_3 hs1_4 hs1_5 hs1_6 hs1_7 hs1_8 hs1_9) (t := 114) rfl ?_
  refine v_ldc hC wk_X0_54 dX0_told_114 (q := 116) rfl ?_
  refine hR _ _ _ _ ?_ dX0_told_116
  refine ⟨?_, rfl⟩
  simp [tolF, *]

set_option maxHeartbeats 4000000 in
set_option maxRecDepth 100000 in
theorem c_X0_put {l : Launch} {X : Gx} {f : Hp} {q : Nat} (hq : q < 56) {k : Int32} {v : Nat → Int32} {w x : Int32} (hw : 1 ≤ w ∧ w ≤ 6) : Cv l X yX0_put cX0_put 3 (none) (rmk 0 0) [.ref (ga X q), .int w, .int x] (va_up f q (oneV k v)) (fun g => g = va_up f q (oneV k (upd v w.toNatClampNeg x))) := by
  refine ct_v (own := RX0) (lv := [some (.ref (ga X q)), some (.int w), some (.int x)]) (by decide) rfl (Nat.le_of_ble_eq_true rfl) (Nat.le_of_ble_eq_true rfl) rfl (fun C hC hR => ?_)
  refine v_iload_n hC rfl dX0_put_0 (q := 1) rfl ?_
  refine v_em 1 (fun hs1_0 => ?_) (fun hs1_0 => ?_)
  · refine v_tin hC dX0_put_1 (by decide) (by decide) rfl (t := 40) rfl ?_
    refine v_aload_n hC rfl dX0_put_40 (q := 41) rfl ?_
    refine v_iload_n hC rfl dX0_put_41 (q := 42) rfl ?_
    refine v_put hC fl_X0_18 pt_0_2 (k := q) hq (va_up_self _ _ _) (Nat.le_of_ble_eq_true rfl) rfl rfl (oV_1 _) dX0_put_42 (q := 45) rfl ?_
    refine v_goto hC dX0_put_45 (t := 88) rfl ?_
    refine hR _ _ _ ?_ dX0_put_88
    rw [hs1_0]
    rfl
  refine v_em 2 (fun hs1_1 => ?_) (fun hs1_1 => ?_)
  · refine v_tin hC dX0_put_1 (by decide) (by decide) rfl (t := 48) rfl ?_
    refine v_aload_n hC rfl dX0_put_48 (q := 49) rfl ?_
    refine v_iload_n hC rfl dX0_put_49 (q := 50) rfl ?_
    refine v_put hC fl_X0_21 pt_0_3 (k := q) hq (va_up_self _ _ _) (Nat.le_of_ble_eq_true rfl) rfl rfl (oV_2 _) dX0_put_50 (q := 53) rfl ?_
    refine v_goto hC dX0_put_53 (t := 88) rfl ?_
    refine hR _ _ _ ?_ dX0_put_88
    rw [hs1_1]
    rfl
  refine v_em 3 (fun hs1_2 => ?_) (fun hs1_2 => ?_)
  · refine v_tin hC dX0_put_1 (by decide) (by decide) rfl (t := 56) rfl ?_
    refine v_aload_n hC rfl dX0_put_56 (q := 57) rfl ?_
    refine v_iload_n hC rfl dX0_put_57 (q := 58) rfl ?_
    refine v_put hC fl_X0_24 pt_0_4 (k := q) hq (va_up_self _ _ _) (Nat.le_of_ble_eq_true rfl) rfl rfl (oV_3 _) dX0_put_58 (q := 61) rfl ?_
    refine v_goto hC dX0_put_61 (t := 88) rfl ?_
    refine hR _ _ _ ?_ dX0_put_88
    rw [hs1_2]
    rfl
  refine v_em 4 (fun hs1_3 => ?_) (fun hs1_3 => ?_)
  · refine v_tin hC dX0_put_1 (by decide) (by decide) rfl (t := 64) rfl ?_
    refine v_aload_n hC rfl dX0_put_64 (q := 65) rfl ?_
    refine v_iload_n hC rfl dX0_put_65 (q := 66) rfl ?_
    refine v_put hC fl_X0_27 pt_0_5 (k := q) hq (va_up_self _ _ _) (Nat.le_of_ble_eq_true rfl) rfl rfl (oV_4 _) dX0_put_66 (q := 69) rfl ?_
    refine v_goto hC dX0_put_69 (t := 88) rfl ?_
    refine hR _ _ _ ?_ dX0_put_88
    rw [hs1_3]
    rfl
  refine v_em 5 (fun hs1_4 => ?_) (fun hs1_4 => ?_)
  · refine v_tin hC dX0_put_1 (by decide) (by decide) rfl (t := 72) rfl ?_
    refine v_aload_n hC rfl dX0_put_72 (q := 73) rfl ?_
    refine v_iload_n hC rfl dX0_put_73 (q := 74) rfl ?_
    refine v_put hC fl_X0_30 pt_0_6 (k := q) hq (va_up_self _ _ _) (Nat.le_of_ble_eq_true rfl) rfl rfl (oV_5 _) dX0_put_74 (q := 77) rfl ?_
    refine v_goto hC dX0_put_77 (t := 88) rfl ?_
    refine hR _ _ _ ?_ dX0_put_88
    rw [hs1_4]
    rfl
  refine v_em 6 (fun hs1_5 => ?_) (fun hs1_5 => ?_)
  · refine v_tin hC dX0_put_1 (by decide) (by decide) rfl (t := 80) rfl ?_
    refine v_aload_n hC rfl dX0_put_80 (q := 81) rfl ?_
    refine v_iload_n hC rfl dX0_put_81 (q := 82) rfl ?_
    refine v_put hC fl_X0_33 pt_0_7 (k := q) hq (va_up_self _ _ _) (Nat.le_of_ble_eq_true rfl) rfl rfl (oV_6 _) dX0_put_82 (q := 85) rfl ?_
    refine v_goto hC dX0_put_85 (t := 88) rfl ?_
    refine hR _ _ _ ?_ dX0_put_88
    rw [hs1_5]
    rfl
  refine v_tout hC dX0_put_1 (sw_out_1_6 hs1_0 hs1_1 hs1_2 hs1_3 hs1_4 hs1_5) (t := 88) rfl ?_
  refine hR _ _ _ ?_ dX0_put_88
  exfalso
  obtain ⟨W, h1, h6, rfl⟩ := w_of' (a := 1) (N := 6) (by decide) (by decide) hw.1 hw.2
  rcases (show W = 1 ∨ W = 2 ∨ W = 3 ∨ W = 4 ∨ W = 5 ∨ W = 6 by omega) with rfl | rfl | rfl | rfl | rfl | rfl
  · exact hs1_0 rfl
  · exact hs1_1 rfl
  · exact hs1_2 rfl
  · exact hs1_3 rfl
  · exact hs1_4 rfl
  · exact hs1_5 rfl

set_option maxHeartbeats 4000000 in
set_option maxRecDepth 100000 in
theorem c_X0_haveGround {l : Launch} {X : Gx} {f : Hp} {q : Nat} (hq : q < 56) {k : Int32} {v : Nat → Int32} (hv : okV v) : Cv l X yX0_haveGround cX0_haveGround 1 (none) (rmk 2 43) [.ref (ga X q)] (va_up f q (oneV k v)) (fun g => g = va_up f q (oneV k (grdV v))) := by
  refine ct_v (own := RX0) (lv := [some (.ref (ga X q))]) (by decide) rfl (Nat.le_of_ble_eq_true rfl) (Nat.le_of_ble_eq_true rfl) rfl (fun C hC hR => ?_)
  refine v_aload_n hC rfl dX0_haveGround_0 (q := 1) rfl ?_
  refine v_aload_n hC rfl dX0_haveGround_1 (q := 2) rfl ?_
  refine v_get hC fl_X0_21 (k := q) hq (va_up_self _ _ _) rfl dX0_haveGround_2 (q := 5) rfl ?_
  refine v_put hC fl_X0_27 pt_0_5 (k := q) hq (va_up_self _ _ _) (Nat.le_of_ble_eq_true rfl) rfl rfl (oV_4 _) dX0_haveGround_5 (q := 8) rfl ?_
  refine v_aload_n hC rfl dX0_haveGround_8 (q := 9) rfl ?_
  refine v_aload_n hC rfl dX0_haveGround_9 (q := 10) rfl ?_
  refine v_Vi hC lkV_X0_40 (c_X0_grinding hq (okV_4 hv hv.2.2.1)) rfl (by decide) (k := q) hq (va_up_self _ _ _) rfl rfl (Nat.le_of_ble_eq_true rfl) dX0_haveGround_10 (q := 13) rfl ?_
  rintro _ _ ⟨rfl, rfl⟩
  refine v_put hC fl_X0_30 pt_0_6 (k := q) hq (va_up_self _ _ _) (Nat.le_of_ble_eq_true rfl) rfl rfl (oV_5 _) dX0_haveGround_13 (q := 16) rfl ?_
  refine v_aload_n hC rfl dX0_haveGround_16 (q := 17) rfl ?_
  refine v_iconst hC (v := 0) rfl dX0_haveGround_17 (q := 18) rfl ?_
  refine v_put hC fl_X0_33 pt_0_7 (k := q) hq (va_up_self _ _ _) (Nat.le_of_ble_eq_true rfl) rfl rfl (oV_6 _) dX0_haveGround_18 (q := 21) rfl ?_
  refine v_aload_n hC rfl dX0_haveGround_21 (q := 22) rfl ?_
  refine v_iconst hC (v := 0) rfl dX0_haveGround_22 (q := 23) rfl ?_
  refine v_put hC fl_X0_24 pt_0_4 (k := q) hq (va_up_self _ _ _) (Nat.le_of_ble_eq_true rfl) rfl rfl (oV_3 _) dX0_haveGround_23 (q := 26) rfl ?_
  refine hR _ _ _ ?_ dX0_haveGround_26
  simp only [grindF_4]
  congr 2
  funext j
  simp only [grdV, upd]
  split
  · rfl
  · split
    · rfl
    · split
      · rename_i h
        rw [if_neg (show ¬ j = 4 by omega)]
      · rfl

set_option maxHeartbeats 4000000 in
set_option maxRecDepth 100000 in
theorem c_X0_begin {l : Launch} {X : Gx} {f : Hp} {q : Nat} (hq : q < 56) {k : Int32} {v : Nat → Int32} {nb kd : Int32} : Cv l X yX0_begin cX0_begin 3 (none) (rmk 0 0) [.ref (ga X q), .int nb, .int kd] (va_up f q (oneV k v)) (fun g => g = va_up f q (oneV nb (newV kd 20 (-1)))) := by
  refine ct_v (own := RX0) (lv := [some (.ref (ga X q)), some (.int nb), some (.int kd)]) (by decide) rfl (Nat.le_of_ble_eq_true rfl) (Nat.le_of_ble_eq_true rfl) rfl (fun C hC hR => ?_)
  refine v_aload_n hC rfl dX0_begin_0 (q := 1) rfl ?_
  refine v_iload_n hC rfl dX0_begin_1 (q := 2) rfl ?_
  refine v_put hC fl_X0_9 pt_0_0 (k := q) hq (va_up_self _ _ _) (Nat.le_of_ble_eq_true rfl) rfl rfl (oV_n _) dX0_begin_2 (q := 5) rfl ?_
  refine v_aload_n hC rfl dX0_begin_5 (q := 6) rfl ?_
  refine v_iload_n hC rfl dX0_begin_6 (q := 7) rfl ?_
  refine v_put hC fl_X0_15 pt_0_1 (k := q) hq (va_up_self _ _ _) (Nat.le_of_ble_eq_true rfl) rfl rfl (oV_0 _) dX0_begin_7 (q := 10) rfl ?_
  refine v_aload_n hC rfl dX0_begin_10 (q := 11) rfl ?_
  refine v_bipush hC (v := 20) rfl dX0_begin_11 (q := 13) rfl ?_
  refine v_put hC fl_X0_18 pt_0_2 (k := q) hq (va_up_self _ _ _) (Nat.le_of_ble_eq_true rfl) rfl rfl (oV_1 _) dX0_begin_13 (q := 16) rfl ?_
  refine v_aload_n hC rfl dX0_begin_16 (q := 17) rfl ?_
  refine v_iconst hC (v := (-1)) rfl dX0_begin_17 (q := 18) rfl ?_
  refine v_put hC fl_X0_21 pt_0_3 (k := q) hq (va_up_self _ _ _) (Nat.le_of_ble_eq_true rfl) rfl rfl (oV_2 _) dX0_begin_18 (q := 21) rfl ?_
  refine v_aload_n hC rfl dX0_begin_21 (q := 22) rfl ?_
  refine v_iconst hC (v := 0) rfl dX0_begin_22 (q := 23) rfl ?_
  refine v_put hC fl_X0_24 pt_0_4 (k := q) hq (va_up_self _ _ _) (Nat.le_of_ble_eq_true rfl) rfl rfl (oV_3 _) dX0_begin_23 (q := 26) rfl ?_
  refine v_aload_n hC rfl dX0_begin_26 (q := 27) rfl ?_
  refine v_iconst hC (v := (-1)) rfl dX0_begin_27 (q := 28) rfl ?_
  refine v_put hC fl_X0_27 pt_0_5 (k := q) hq (va_up_self _ _ _) (Nat.le_of_ble_eq_true rfl) rfl rfl (oV_4 _) dX0_begin_28 (q := 31) rfl ?_
  refine v_aload_n hC rfl dX0_begin_31 (q := 32) rfl ?_
  refine v_iconst hC (v := 0) rfl dX0_begin_32 (q := 33) rfl ?_
  refine v_put hC fl_X0_30 pt_0_6 (k := q) hq (va_up_self _ _ _) (Nat.le_of_ble_eq_true rfl) rfl rfl (oV_5 _) dX0_begin_33 (q := 36) rfl ?_
  refine v_aload_n hC rfl dX0_begin_36 (q := 37) rfl ?_
  refine v_iconst hC (v := 0) rfl dX0_begin_37 (q := 38) rfl ?_
  refine v_put hC fl_X0_33 pt_0_7 (k := q) hq (va_up_self _ _ _) (Nat.le_of_ble_eq_true rfl) rfl rfl (oV_6 _) dX0_begin_38 (q := 41) rfl ?_
  refine hR _ _ _ ?_ dX0_begin_41
  rfl

set_option maxHeartbeats 4000000 in
set_option maxRecDepth 100000 in
theorem c_X0_takePairOf {l : Launch} {X : Gx} {f : Hp} {q : Nat} (hq : q < 56) {k : Int32} {v : Nat → Int32} {q2 : Nat} (hq2 : q2 < 56) {k2 : Int32} {v2 : Nat → Int32} (hne : q2 ≠ q) (hf2 : f q2 = oneV k2 v2) : Cv l X yX0_takePairOf cX0_takePairOf 2 (none) (rmk 0 0) [.ref (ga X q), .ref (ga X q2)] (va_up f q (oneV k v)) (fun g => g = va_up f q (oneV k (vsw v v2))) := by
  refine ct_v (own := RX0) (lv := [some (.ref (ga X q)), some (.ref (ga X q2))]) (by decide) rfl (Nat.le_of_ble_eq_true rfl) (Nat.le_of_ble_eq_true rfl) rfl (fun C hC hR => ?_)
  refine v_aload_n hC rfl dX0_takePairOf_0 (q := 1) rfl ?_
  refine v_aload_n hC rfl dX0_takePairOf_1 (q := 2) rfl ?_
  refine v_get hC fl_X0_27 (k := q2) hq2 ((va_up_ne _ _ hne).trans hf2) rfl dX0_takePairOf_2 (q := 5) rfl ?_
  refine v_put hC fl_X0_27 pt_0_5 (k := q) hq (va_up_self _ _ _) (Nat.le_of_ble_eq_true rfl) rfl rfl (oV_4 _) dX0_takePairOf_5 (q := 8) rfl ?_
  refine v_aload_n hC rfl dX0_takePairOf_8 (q := 9) rfl ?_
  refine v_aload_n hC rfl dX0_takePairOf_9 (q := 10) rfl ?_
  refine v_get hC fl_X0_30 (k := q2) hq2 ((va_up_ne _ _ hne).trans hf2) rfl dX0_takePairOf_10 (q := 13) rfl ?_
  refine v_put hC fl_X0_30 pt_0_6 (k := q) hq (va_up_self _ _ _) (Nat.le_of_ble_eq_true rfl) rfl rfl (oV_5 _) dX0_takePairOf_13 (q := 16) rfl ?_
  refine v_aload_n hC rfl dX0_takePairOf_16 (q := 17) rfl ?_
  refine v_aload_n hC rfl dX0_takePairOf_17 (q := 18) rfl ?_
  refine v_get hC fl_X0_33 (k := q2) hq2 ((va_up_ne _ _ hne).trans hf2) rfl dX0_takePairOf_18 (q := 21) rfl ?_
  refine v_put hC fl_X0_33 pt_0_7 (k := q) hq (va_up_self _ _ _) (Nat.le_of_ble_eq_true rfl) rfl rfl (oV_6 _) dX0_takePairOf_21 (q := 24) rfl ?_
  refine hR _ _ _ ?_ dX0_takePairOf_24
  rfl

set_option maxHeartbeats 4000000 in
set_option maxRecDepth 100000 in
theorem c_X0_become {l : Launch} {X : Gx} {f : Hp} {q : Nat} (hq : q < 56) {k : Int32} {v : Nat → Int32} {q2 : Nat} (hq2 : q2 < 56) {k2 : Int32} {v2 : Nat → Int32} (hne : q2 ≠ q) (hf2 : f q2 = oneV k2 v2) : Cv l X yX0_become cX0_become 2 (none) (rmk 1 21) [.ref (ga X q), .ref (ga X q2)] (va_up f q (oneV k v)) (fun g => g = va_up f q (oneV k2 v2)) := by
  refine ct_v (own := RX0) (lv := [some (.ref (ga X q)), some (.ref (ga X q2))]) (by decide) rfl (Nat.le_of_ble_eq_true rfl) (Nat.le_of_ble_eq_true rfl) rfl (fun C hC hR => ?_)
  refine v_aload_n hC rfl dX0_become_0 (q := 1) rfl ?_
  refine v_aload_n hC rfl dX0_become_1 (q := 2) rfl ?_
  refine v_get hC fl_X0_9 (k := q2) hq2 ((va_up_ne _ _ hne).trans hf2) rfl dX0_become_2 (q := 5) rfl ?_
  refine v_put hC fl_X0_9 pt_0_0 (k := q) hq (va_up_self _ _ _) (Nat.le_of_ble_eq_true rfl) rfl rfl (oV_n _) dX0_become_5 (q := 8) rfl ?_
  refine v_aload_n hC rfl dX0_become_8 (q := 9) rfl ?_
  refine v_aload_n hC rfl dX0_become_9 (q := 10) rfl ?_
  refine v_get hC fl_X0_15 (k := q2) hq2 ((va_up_ne _ _ hne).trans hf2) rfl dX0_become_10 (q := 13) rfl ?_
  refine v_put hC fl_X0_15 pt_0_1 (k := q) hq (va_up_self _ _ _) (Nat.le_of_ble_eq_true rfl) rfl rfl (oV_0 _) dX0_become_13 (q := 16) rfl ?_
  refine v_aload_n hC rfl dX0_become_16 (q := 17) rfl ?_
  refine v_aload_n hC rfl dX0_become_17 (q := 18) rfl ?_
  refine v_get hC fl_X0_18 (k := q2) hq2 ((va_up_ne _ _ hne).trans hf2) rfl dX0_become_18 (q := 21) rfl ?_
  refine v_put hC fl_X0_18 pt_0_2 (k := q) hq (va_up_self _ _ _) (Nat.le_of_ble_eq_true rfl) rfl rfl (oV_1 _) dX0_become_21 (q := 24) rfl ?_
  refine v_aload_n hC rfl dX0_become_24 (q := 25) rfl ?_
  refine v_aload_n hC rfl dX0_become_25 (q := 26) rfl ?_
  refine v_get hC fl_X0_21 (k := q2) hq2 ((va_up_ne _ _ hne).trans hf2) rfl dX0_become_26 (q := 29) rfl ?_
  refine v_put hC fl_X0_21 pt_0_3 (k := q) hq (va_up_self _ _ _) (Nat.le_of_ble_eq_true rfl) rfl rfl (oV_2 _) dX0_become_29 (q := 32) rfl ?_
  refine v_aload_n hC rfl dX0_become_32 (q := 33) rfl ?_
  refine v_aload_n hC rfl dX0_become_33 (q := 34) rfl ?_
  refine v_get hC fl_X0_24 (k := q2) hq2 ((va_up_ne _ _ hne).trans hf2) rfl dX0_become_34 (q := 37) rfl ?_
  refine v_put hC fl_X0_24 pt_0_4 (k := q) hq (va_up_self _ _ _) (Nat.le_of_ble_eq_true rfl) rfl rfl (oV_3 _) dX0_become_37 (q := 40) rfl ?_
  refine v_aload_n hC rfl dX0_become_40 (q := 41) rfl ?_
  refine v_aload_n hC rfl dX0_become_41 (q := 42) rfl ?_
  refine v_Vv hC lkV_X0_36 (c_X0_takePairOf hq hq2 hne hf2) rfl (by decide) (k := q) hq (va_up_self _ _ _) rfl rfl (Nat.le_of_ble_eq_true rfl) dX0_become_42 (q := 45) rfl ?_
  rintro _ rfl
  refine hR _ _ _ ?_ dX0_become_45
  rfl

set_option maxHeartbeats 4000000 in
set_option maxRecDepth 100000 in
theorem c_X0_letDayGo {l : Launch} {X : Gx} {f : Hp} {q : Nat} (hq : q < 56) {k : Int32} {v : Nat → Int32} (hv : okV v) : Cv l X yX0_letDayGo cX0_letDayGo 3 (none) (rmk 3 65) [.ref (ga X q)] (va_up f q (oneV k v)) (fun g => g = va_up f q (oneV k (dayF k v))) := by
  refine ct_v (own := RX0) (lv := [some (.ref (ga X q)), none, none]) (by decide) rfl (Nat.le_of_ble_eq_true rfl) (Nat.le_of_ble_eq_true rfl) rfl (fun C hC hR => ?_)
  refine v_aload_n hC rfl dX0_letDayGo_0 (q := 1) rfl ?_
  refine v_Vi hC lkV_X0_44 (c_X0_sharpnessAtItsOne hq hv) rfl (by decide) (k := q) hq (va_up_self _ _ _) rfl rfl (Nat.le_of_ble_eq_true rfl) dX0_letDayGo_1 (q := 4) rfl ?_
  rintro _ _ ⟨rfl, rfl⟩
  refine v_istore_1 hC rfl dX0_letDayGo_4 (q := 5) rfl ?_
  refine v_aload_n hC rfl dX0_letDayGo_5 (q := 6) rfl ?_
  refine v_get hC fl_X0_18 (k := q) hq (va_up_self _ _ _) rfl dX0_letDayGo_6 (q := 9) rfl ?_
  refine v_aload_n hC rfl dX0_letDayGo_9 (q := 10) rfl ?_
  refine v_iload_n hC rfl dX0_letDayGo_10 (q := 11) rfl ?_
  refine v_Vi hC lkV_X0_51 (c_X0_growing hq) rfl (by decide) (k := q) hq (va_up_self _ _ _) rfl rfl (Nat.le_of_ble_eq_true rfl) dX0_letDayGo_11 (q := 14) rfl ?_
  rintro _ _ ⟨rfl, rfl⟩
  refine v_iadd hC dX0_letDayGo_14 (q := 15) rfl ?_
  refine v_aload_n hC rfl dX0_letDayGo_15 (q := 16) rfl ?_
  refine v_iload_n hC rfl dX0_letDayGo_16 (q := 17) rfl ?_
  refine v_Vi hC lkV_X0_47 (c_X0_forgiving hq) rfl (by decide) (k := q) hq (va_up_self _ _ _) rfl rfl (Nat.le_of_ble_eq_true rfl) dX0_letDayGo_17 (q := 20) rfl ?_
  rintro _ _ ⟨rfl, rfl⟩
  refine v_isub hC dX0_letDayGo_20 (q := 21) rfl ?_
  refine v_istore_2 hC rfl dX0_letDayGo_21 (q := 22) rfl ?_
  refine v_aload_n hC rfl dX0_letDayGo_22 (q := 23) rfl ?_
  refine v_iconst hC (v := 0) rfl dX0_letDayGo_23 (q := 24) rfl ?_
  refine v_bipush hC (v := 99) rfl dX0_letDayGo_24 (q := 26) rfl ?_
  refine v_iload_n hC rfl dX0_letDayGo_26 (q := 27) rfl ?_
  refine v_min hC wm_X0_55 wt_J9_min_7cf53 wi_J9 wd_J9_min_7cf53 ⟨by decide, Nat.le_of_ble_eq_true rfl⟩ dX0_letDayGo_27 (q := 30) rfl ?_
  refine v_max hC wm_X0_61 wt_J9_max_7cf53 wi_J9 wd_J9_max_7cf53 ⟨by decide, Nat.le_of_ble_eq_true rfl⟩ dX0_letDayGo_30 (q := 33) rfl ?_
  refine v_put hC fl_X0_18 pt_0_2 (k := q) hq (va_up_self _ _ _) (Nat.le_of_ble_eq_true rfl) rfl rfl (oV_1 _) dX0_letDayGo_33 (q := 36) rfl ?_
  refine v_aload_n hC rfl dX0_letDayGo_36 (q := 37) rfl ?_
  refine v_get hC fl_X0_24 (k := q) hq (va_up_self _ _ _) rfl dX0_letDayGo_37 (q := 40) rfl ?_
  refine v_if_ne hC dX0_letDayGo_40 (t := 73) rfl (q := 43) rfl (fun h40 => ?_) (fun h40 => ?_)
  · refine hR _ _ _ ?_ dX0_letDayGo_73
    refine congrArg (fun z => va_up f q (oneV k z)) ?_
    rw [mm_held]
    have hw := wr_of hv.2.2.2.2.2.2.1 hv.2.2.2.2.2.2.2
    have h40 : ¬ v 3 = 0 := h40
    rw [dayF, upd_id (j := 6)]
    · rfl
    · rw [dayW, if_neg (fun z => h40 z.1), hw.1]; rfl
  · refine v_aload_n hC rfl dX0_letDayGo_43 (q := 44) rfl ?_
    refine v_get hC fl_X0_18 (k := q) hq (va_up_self _ _ _) rfl dX0_letDayGo_44 (q := 47) rfl ?_
    refine v_aload_n hC rfl dX0_letDayGo_47 (q := 48) rfl ?_
    refine v_get hC fl_X0_30 (k := q) hq (va_up_self _ _ _) rfl dX0_letDayGo_48 (q := 51) rfl ?_
    refine v_icmp_ge hC dX0_letDayGo_51 (t := 73) rfl (q := 54) rfl (fun h51 => ?_) (fun h51 => ?_)
    · refine hR _ _ _ ?_ dX0_letDayGo_73
      refine congrArg (fun z => va_up f q (oneV k z)) ?_
      rw [mm_held] at h51 ⊢
      have hw := wr_of hv.2.2.2.2.2.2.1 hv.2.2.2.2.2.2.2
      have h51 : v 5 ≤ dayG k v := h51
      rw [dayF, upd_id (j := 6)]
      · rfl
      · rw [dayW, if_neg (fun z => Int32.not_lt.mpr h51 z.2), hw.1]; rfl
    · refine v_aload_n hC rfl dX0_letDayGo_54 (q := 55) rfl ?_
      refine v_get hC fl_X0_33 (k := q) hq (va_up_self _ _ _) rfl dX0_letDayGo_55 (q := 58) rfl ?_
      refine v_bipush hC (v := 99) rfl dX0_letDayGo_58 (q := 60) rfl ?_
      refine v_icmp_ge hC dX0_letDayGo_60 (t := 73) rfl (q := 63) rfl (fun h60 => ?_) (fun h60 => ?_)
      · refine hR _ _ _ ?_ dX0_letDayGo_73
        refine congrArg (fun z => va_up f q (oneV k z)) ?_
        rw [mm_held] at h51 ⊢
        have hw := wr_of hv.2.2.2.2.2.2.1 hv.2.2.2.2.2.2.2
        have h40 : v 3 = 0 := h40
        have h51 : ¬ v 5 ≤ dayG k v := h51
        have h60 : 99 ≤ v 6 := h60
        rw [dayF, upd_id (j := 6)]
        · rfl
        · rw [dayW, if_pos ⟨h40, Int32.not_le.mp h51⟩, hw.2.2 h60]; rfl
      · refine v_aload_n hC rfl dX0_letDayGo_63 (q := 64) rfl ?_
        refine v_dup hC rfl dX0_letDayGo_64 (q := 65) rfl ?_
        refine v_get hC fl_X0_33 (k := q) hq (va_up_self _ _ _) rfl dX0_letDayGo_65 (q := 68) rfl ?_
        refine v_iconst hC (v := 1) rfl dX0_letDayGo_68 (q := 69) rfl ?_
        refine v_iadd hC dX0_letDayGo_69 (q := 70) rfl ?_
        refine v_put hC fl_X0_33 pt_0_7 (k := q) hq (va_up_self _ _ _) (Nat.le_of_ble_eq_true rfl) rfl rfl (oV_6 _) dX0_letDayGo_70 (q := 73) rfl ?_
        refine hR _ _ _ ?_ dX0_letDayGo_73
        refine congrArg (fun z => va_up f q (oneV k z)) ?_
        rw [mm_held] at h51 ⊢
        have hw := wr_of hv.2.2.2.2.2.2.1 hv.2.2.2.2.2.2.2
        have h40 : v 3 = 0 := h40
        have h51 : ¬ v 5 ≤ dayG k v := h51
        have h60 : ¬ 99 ≤ v 6 := h60
        rw [dayF, dayW, if_pos ⟨h40, Int32.not_le.mp h51⟩, hw.2.1 (Int32.not_le.mp h60)]
        rfl

set_option maxHeartbeats 4000000 in
set_option maxRecDepth 100000 in
theorem c_X0_letDaysGo {l : Launch} {X : Gx} {f : Hp} {q : Nat} (hq : q < 56) {k : Int32} {v : Nat → Int32} (hv : okV v) {n : Nat} (hn : n < 2147483648) : Cv l X yX0_letDaysGo cX0_letDaysGo 3 (none) (rmk 4 87) [.ref (ga X q), .int (nI n)] (va_up f q (oneV k v)) (fun g => g = va_up f q (oneV k (itD k v n))) := by
  refine ct_v (own := RX0) (lv := [some (.ref (ga X q)), some (.int (nI n)), none]) (by decide) rfl (Nat.le_of_ble_eq_true rfl) (Nat.le_of_ble_eq_true rfl) rfl (fun C hC hR => ?_)
  have loop : ∀ j, j ≤ n → V l X (rmk 4 87) C (va_up f q (oneV k (itD k v j))) 2 [some (.ref (ga X q)), some (.int (nI n)), some (.int (nI j))] [] := by
    refine v_up n ?_ ?_
    · refine v_iload_n hC rfl dX0_letDaysGo_2 (q := 3) rfl ?_
      refine v_iload_n hC rfl dX0_letDaysGo_3 (q := 4) rfl ?_
      refine v_icmp_ge hC dX0_letDaysGo_4 (t := 17) rfl (q := 7) rfl (fun _ => ?_) (fun h => absurd (Int32.le_refl _) h)
      refine hR _ _ _ ?_ dX0_letDaysGo_17
      rfl
    · intro j hj ih
      refine v_iload_n hC rfl dX0_letDaysGo_2 (q := 3) rfl ?_
      refine v_iload_n hC rfl dX0_letDaysGo_3 (q := 4) rfl ?_
      refine v_icmp_ge hC dX0_letDaysGo_4 (t := 17) rfl (q := 7) rfl (fun h => absurd h (nI_ge hj hn)) (fun _ => ?_)
      refine v_aload_n hC rfl dX0_letDaysGo_7 (q := 8) rfl ?_
      refine v_Vv hC lkV_X0_67 (c_X0_letDayGo hq (okV_it hv j)) rfl (by decide) (k := q) hq (va_up_self _ _ _) rfl rfl (Nat.le_of_ble_eq_true rfl) dX0_letDaysGo_8 (q := 11) rfl ?_
      rintro _ rfl
      refine v_iinc_2 hC (v := _ + 1) rfl rfl dX0_letDaysGo_11 (q := 14) rfl ?_
      refine v_goto hC dX0_letDaysGo_14 (t := 2) rfl ?_
      refine v_same rfl ?_ rfl ih
      simp [nI_1]
  refine v_iconst hC (v := 0) rfl dX0_letDaysGo_0 (q := 1) rfl ?_
  refine v_istore_2 hC rfl dX0_letDaysGo_1 (q := 2) rfl ?_
  exact loop 0 (Nat.zero_le _)
