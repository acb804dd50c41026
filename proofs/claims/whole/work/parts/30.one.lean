/-! ===== the class: One, number k, vector v, at the place q ===== -/
def oneV (k : Int32) (v : Nat → Int32) : va_E := .inr (0, [.int k, .int (v 0), .int (v 1), .int (v 2), .int (v 3), .int (v 4), .int (v 5), .int (v 6)])
section OV
variable {f : Hp} {q : Nat} {k : Int32} {v : Nat → Int32}
theorem oV_n (x : Int32) : va_up (va_up f q (oneV k v)) q (.inr (0, ([.int k, .int (v 0), .int (v 1), .int (v 2), .int (v 3), .int (v 4), .int (v 5), .int (v 6)] : List Value).set 0 (.int x))) = va_up f q (oneV x v) := bx_uu _ _ _ _
theorem oV_0 (x : Int32) : va_up (va_up f q (oneV k v)) q (.inr (0, ([.int k, .int (v 0), .int (v 1), .int (v 2), .int (v 3), .int (v 4), .int (v 5), .int (v 6)] : List Value).set 1 (.int x))) = va_up f q (oneV k (upd v 0 x)) := bx_uu _ _ _ _
theorem oV_1 (x : Int32) : va_up (va_up f q (oneV k v)) q (.inr (0, ([.int k, .int (v 0), .int (v 1), .int (v 2), .int (v 3), .int (v 4), .int (v 5), .int (v 6)] : List Value).set 2 (.int x))) = va_up f q (oneV k (upd v 1 x)) := bx_uu _ _ _ _
theorem oV_2 (x : Int32) : va_up (va_up f q (oneV k v)) q (.inr (0, ([.int k, .int (v 0), .int (v 1), .int (v 2), .int (v 3), .int (v 4), .int (v 5), .int (v 6)] : List Value).set 3 (.int x))) = va_up f q (oneV k (upd v 2 x)) := bx_uu _ _ _ _
theorem oV_3 (x : Int32) : va_up (va_up f q (oneV k v)) q (.inr (0, ([.int k, .int (v 0), .int (v 1), .int (v 2), .int (v 3), .int (v 4), .int (v 5), .int (v 6)] : List Value).set 4 (.int x))) = va_up f q (oneV k (upd v 3 x)) := bx_uu _ _ _ _
theorem oV_4 (x : Int32) : va_up (va_up f q (oneV k v)) q (.inr (0, ([.int k, .int (v 0), .int (v 1), .int (v 2), .int (v 3), .int (v 4), .int (v 5), .int (v 6)] : List Value).set 5 (.int x))) = va_up f q (oneV k (upd v 4 x)) := bx_uu _ _ _ _
theorem oV_5 (x : Int32) : va_up (va_up f q (oneV k v)) q (.inr (0, ([.int k, .int (v 0), .int (v 1), .int (v 2), .int (v 3), .int (v 4), .int (v 5), .int (v 6)] : List Value).set 6 (.int x))) = va_up f q (oneV k (upd v 5 x)) := bx_uu _ _ _ _
theorem oV_6 (x : Int32) : va_up (va_up f q (oneV k v)) q (.inr (0, ([.int k, .int (v 0), .int (v 1), .int (v 2), .int (v 3), .int (v 4), .int (v 5), .int (v 6)] : List Value).set 7 (.int x))) = va_up f q (oneV k (upd v 6 x)) := bx_uu _ _ _ _
end OV
def okV (v : Nat → Int32) : Prop := (0 ≤ v 0 ∧ v 0 ≤ 5) ∧ (0 ≤ v 1 ∧ v 1 ≤ 99) ∧ -1 ≤ v 2 ∧ (v 3 = 0 ∨ v 3 = 1) ∧ -1 ≤ v 4 ∧ (0 ≤ v 5 ∧ v 5 ≤ 99) ∧ (0 ≤ v 6 ∧ v 6 ≤ 99)
theorem max_held {p w : Int32} (h1 : p ≤ 99) (h2 : 0 ≤ w) (h0 : 0 ≤ p) (h3 : w ≤ 99) : (if (0 : Int32) < p - w then p - w else 0) = held (p - w) 0 99 := by
  unfold held
  grind
theorem mm_held {x : Int32} : (if (0 : Int32) < (if x < 99 then x else 99) then (if x < 99 then x else 99) else 0) = held x 0 99 := by
  unfold held
  grind
theorem gq_all : ∀ G : Fin 100, (if nI G.val + 10 < 99 then nI G.val + 10 else 99) = held (nI G.val + 10) 0 99 ∧ (if (if nI G.val + 10 < 99 then nI G.val + 10 else 99) + 10 < 99 then (if nI G.val + 10 < 99 then nI G.val + 10 else 99) + 10 else 99) = held (nI G.val + 20) 0 99 ∧ nI G.val = held (nI G.val) 0 99 ∧ nI G.val / 2 = held (nI G.val / 2) 0 99 ∧ nI G.val / 2 + 20 = held (nI G.val / 2 + 20) 0 99 := by decide +kernel
theorem gq_of {g : Int32} (h0 : 0 ≤ g) (h1 : g ≤ 99) : (if g + 10 < 99 then g + 10 else 99) = held (g + 10) 0 99 ∧ (if (if g + 10 < 99 then g + 10 else 99) + 10 < 99 then (if g + 10 < 99 then g + 10 else 99) + 10 else 99) = held (g + 20) 0 99 ∧ g = held g 0 99 ∧ g / 2 = held (g / 2) 0 99 ∧ g / 2 + 20 = held (g / 2 + 20) 0 99 := by
  obtain ⟨G, -, hG, rfl⟩ := w_of' (a := 0) (N := 99) (by decide) (by decide) h0 h1
  exact gq_all ⟨G, by omega⟩
set_option maxHeartbeats 4000000 in
set_option maxRecDepth 100000 in
theorem c_X0_grinding {l : Launch} {X : Gx} {f : Hp} {q : Nat} (hq : q < 56) {k : Int32} {v : Nat → Int32} (hv : okV v) : Ci l X yX0_grinding cX0_grinding 3 (some .int) (rmk 1 21) [.ref (ga X q)] (va_up f q (oneV k v)) (fun z g => z = grindF v ∧ g = va_up f q (oneV k v)) := by
  refine ct_i (own := RX0) (lv := [some (.ref (ga X q)), none, none]) (by decide) rfl (Nat.le_of_ble_eq_true rfl) (Nat.le_of_ble_eq_true rfl) rfl (fun C hC hR => ?_)
  refine v_bipush hC (v := 99) rfl dX0_grinding_0 (q := 2) rfl ?_
  refine v_aload_n hC rfl dX0_grinding_2 (q := 3) rfl ?_
  refine v_get hC fl_X0_18 (k := q) hq (va_up_self _ _ _) rfl dX0_grinding_3 (q := 6) rfl ?_
  refine v_bipush hC (v := 10) rfl dX0_grinding_6 (q := 8) rfl ?_
  refine v_iadd hC dX0_grinding_8 (q := 9) rfl ?_
  refine v_min hC wm_X0_55 wt_J9_min_7cf53 wi_J9 wd_J9_min_7cf53 ⟨by decide, Nat.le_of_ble_eq_true rfl⟩ dX0_grinding_9 (q := 12) rfl ?_
  refine v_istore_1 hC rfl dX0_grinding_12 (q := 13) rfl ?_
  refine v_aload_n hC rfl dX0_grinding_13 (q := 14) rfl ?_
  refine v_get hC fl_X0_18 (k := q) hq (va_up_self _ _ _) rfl dX0_grinding_14 (q := 17) rfl ?_
  refine v_iconst hC (v := 2) rfl dX0_grinding_17 (q := 18) rfl ?_
  refine v_idiv hC (by decide) dX0_grinding_18 (q := 19) rfl ?_
  refine v_istore_2 hC rfl dX0_grinding_19 (q := 20) rfl ?_
  refine v_aload_n hC rfl dX0_grinding_20 (q := 21) rfl ?_
  refine v_get hC fl_X0_15 (k := q) hq (va_up_self _ _ _) rfl dX0_grinding_21 (q := 24) rfl ?_
  refine v_em 1 (fun hs24_0 => ?_) (fun hs24_0 => ?_)
  · refine v_tin hC dX0_grinding_24 (by decide) (by decide) rfl (t := 60) rfl ?_
    refine v_iload_n hC rfl dX0_grinding_60 (q := 61) rfl ?_
    refine hR _ _ _ _ ?_ dX0_grinding_61
    refine ⟨?_, rfl⟩
    have hg := gq_of hv.2.1.1 hv.2.1.2
    rw [grindF, if_pos hs24_0]
    exact hg.1
  refine v_em 2 (fun hs24_1 => ?_) (fun hs24_1 => ?_)
  · refine v_tin hC dX0_grinding_24 (by decide) (by decide) rfl (t := 62) rfl ?_
    refine v_iload_n hC rfl dX0_grinding_62 (q := 63) rfl ?_
    refine hR _ _ _ _ ?_ dX0_grinding_63
    refine ⟨?_, rfl⟩
    have hg := gq_of hv.2.1.1 hv.2.1.2
    rw [grindF, if_neg hs24_0, if_pos hs24_1]
    exact hg.2.2.2.1
  refine v_em 3 (fun hs24_2 => ?_) (fun hs24_2 => ?_)
  · refine v_tin hC dX0_grinding_24 (by decide) (by decide) rfl (t := 64) rfl ?_
    refine v_iconst hC (v := 0) rfl dX0_grinding_64 (q := 65) rfl ?_
    refine hR _ _ _ _ ?_ dX0_grinding_65
    refine ⟨?_, rfl⟩
    have hg := gq_of hv.2.1.1 hv.2.1.2
    rw [grindF, if_neg hs24_0, if_neg hs24_1, if_pos hs24_2]
    decide
  refine v_em 4 (fun hs24_3 => ?_) (fun hs24_3 => ?_)
  · refine v_tin hC dX0_grinding_24 (by decide) (by decide) rfl (t := 66) rfl ?_
    refine v_bipush hC (v := 99) rfl dX0_grinding_66 (q := 68) rfl ?_
    refine v_iload_n hC rfl dX0_grinding_68 (q := 69) rfl ?_
    refine v_bipush hC (v := 10) rfl dX0_grinding_69 (q := 71) rfl ?_
    refine v_iadd hC dX0_grinding_71 (q := 72) rfl ?_
    refine v_min hC wm_X0_55 wt_J9_min_7cf53 wi_J9 wd_J9_min_7cf53 ⟨by decide, Nat.le_of_ble_eq_true rfl⟩ dX0_grinding_72 (q := 75) rfl ?_
    refine hR _ _ _ _ ?_ dX0_grinding_75
    refine ⟨?_, rfl⟩
    have hg := gq_of hv.2.1.1 hv.2.1.2
    rw [grindF, if_neg hs24_0, if_neg hs24_1, if_neg hs24_2, if_pos hs24_3]
    exact hg.2.1
  refine v_em 5 (fun hs24_4 => ?_) (fun hs24_4 => ?_)
  · refine v_tin hC dX0_grinding_24 (by decide) (by decide) rfl (t := 76) rfl ?_
    refine v_iload_n hC rfl dX0_grinding_76 (q := 77) rfl ?_
    refine v_bipush hC (v := 20) rfl dX0_grinding_77 (q := 79) rfl ?_
    refine v_iadd hC dX0_grinding_79 (q := 80) rfl ?_
    refine hR _ _ _ _ ?_ dX0_grinding_80
    refine ⟨?_, rfl⟩
    have hg := gq_of hv.2.1.1 hv.2.1.2
    rw [grindF, if_neg hs24_0, if_neg hs24_1, if_neg hs24_2, if_neg hs24_3, if_pos hs24_4]
    exact hg.2.2.2.2
  refine v_tout hC dX0_grinding_24 (sw_out_1_5 hs24_0 hs24_1 hs24_2 hs24_3 hs24_4) (t := 81) rfl ?_
  refine v_aload_n hC rfl dX0_grinding_81 (q := 82) rfl ?_
  refine v_get hC fl_X0_18 (k := q) hq (va_up_self _ _ _) rfl dX0_grinding_82 (q := 85) rfl ?_
  refine hR _ _ _ _ ?_ dX0_grinding_85
  refine ⟨?_, rfl⟩
  have hg := gq_of hv.2.1.1 hv.2.1.2
  rw [grindF, if_neg hs24_0, if_neg hs24_1, if_neg hs24_2, if_neg hs24_3, if_neg hs24_4]
  exact hg.2.2.1

set_option maxHeartbeats 4000000 in
set_option maxRecDepth 100000 in
theorem c_X0_sharpnessAt {l : Launch} {X : Gx} {f : Hp} {q : Nat} (hq : q < 56) {k : Int32} {v : Nat → Int32} (hv : okV v) {o : Int32} : Ci l X yX0_sharpnessAt cX0_sharpnessAt 5 (some .int) (rmk 1 21) [.ref (ga X q), .int o] (va_up f q (oneV k v)) (fun z g => z = lookF k v o ∧ g = va_up f q (oneV k v)) := by
  refine ct_i (own := RX0) (lv := [some (.ref (ga X q)), some (.int o), none, none, none]) (by decide) rfl (Nat.le_of_ble_eq_true rfl) (Nat.le_of_ble_eq_true rfl) rfl (fun C hC hR => ?_)
  have J75 : ∀ hup : ¬ v 3 = 1, ∀ z, z = briF k v o → V l X (rmk 1 21) C (va_up f q (oneV k v)) 75 [some (.ref (ga X q)), some (.int o), some (.int (plainF v o)), some (.int (broF k v o)), none] [.int z] := by
    rintro hup z rfl
    refine v_istore_4 hC rfl dX0_sharpnessAt_75 (q := 77) rfl ?_
    refine v_aload_n hC rfl dX0_sharpnessAt_77 (q := 78) rfl ?_
    refine v_get hC fl_X0_15 (k := q) hq (va_up_self _ _ _) rfl dX0_sharpnessAt_78 (q := 81) rfl ?_
    refine v_em 1 (fun hs81_0 => ?_) (fun hs81_0 => ?_)
    · refine v_tin hC dX0_sharpnessAt_81 (by decide) (by decide) rfl (t := 116) rfl ?_
      refine v_iload_n hC rfl dX0_sharpnessAt_116 (q := 117) rfl ?_
      refine hR _ _ _ _ ?_ dX0_sharpnessAt_117
      refine ⟨?_, rfl⟩
      first | (simp [lookF, *]; done) | (simp only [lookF]; grind)
    refine v_em 2 (fun hs81_1 => ?_) (fun hs81_1 => ?_)
    · refine v_tin hC dX0_sharpnessAt_81 (by decide) (by decide) rfl (t := 118) rfl ?_
      refine v_iload hC rfl dX0_sharpnessAt_118 (q := 120) rfl ?_
      refine hR _ _ _ _ ?_ dX0_sharpnessAt_120
      refine ⟨?_, rfl⟩
      first | (simp [lookF, *]; done) | (simp only [lookF]; grind)
    refine v_em 3 (fun hs81_2 => ?_) (fun hs81_2 => ?_)
    · refine v_tin hC dX0_sharpnessAt_81 (by decide) (by decide) rfl (t := 121) rfl ?_
      refine v_bipush hC (v := 10) rfl dX0_sharpnessAt_121 (q := 123) rfl ?_
      refine hR _ _ _ _ ?_ dX0_sharpnessAt_123
      refine ⟨?_, rfl⟩
      first | (simp [lookF, *]; done) | (simp only [lookF]; grind)
    refine v_em 4 (fun hs81_3 => ?_) (fun hs81_3 => ?_)
    · refine v_tin hC dX0_sharpnessAt_81 (by decide) (by decide) rfl (t := 124) rfl ?_
      refine v_iload_n hC rfl dX0_sharpnessAt_124 (q := 125) rfl ?_
      refine v_aload_n hC rfl dX0_sharpnessAt_125 (q := 126) rfl ?_
      refine v_get hC fl_X0_9 (k := q) hq (va_up_self _ _ _) rfl dX0_sharpnessAt_126 (q := 129) rfl ?_
      refine v_iload_n hC rfl dX0_sharpnessAt_129 (q := 130) rfl ?_
      refine v_iconst hC (v := 1) rfl dX0_sharpnessAt_130 (q := 131) rfl ?_
      refine v_iadd hC dX0_sharpnessAt_131 (q := 132) rfl ?_
      refine v_icmp_ne hC dX0_sharpnessAt_132 (t := 139) rfl (q := 135) rfl (fun h132 => ?_) (fun h132 => ?_)
      · refine v_iconst hC (v := 0) rfl dX0_sharpnessAt_139 (q := 140) rfl ?_
        refine v_iadd hC dX0_sharpnessAt_140 (q := 141) rfl ?_
        refine hR _ _ _ _ ?_ dX0_sharpnessAt_141
        refine ⟨?_, rfl⟩
        first | (simp [lookF, *]; done) | (simp only [lookF]; grind)
      · refine v_iconst hC (v := 5) rfl dX0_sharpnessAt_135 (q := 136) rfl ?_
        refine v_goto hC dX0_sharpnessAt_136 (t := 140) rfl ?_
        refine v_iadd hC dX0_sharpnessAt_140 (q := 141) rfl ?_
        refine hR _ _ _ _ ?_ dX0_sharpnessAt_141
        refine ⟨?_, rfl⟩
        first | (simp [lookF, *]; done) | (simp only [lookF]; grind)
    refine v_em 5 (fun hs81_4 => ?_) (fun hs81_4 => ?_)
    · refine v_tin hC dX0_sharpnessAt_81 (by decide) (by decide) rfl (t := 142) rfl ?_
      refine v_iconst hC (v := 5) rfl dX0_sharpnessAt_142 (q := 143) rfl ?_
      refine v_iload hC rfl dX0_sharpnessAt_143 (q := 145) rfl ?_
      refine v_max hC wm_X0_61 wt_J9_max_7cf53 wi_J9 wd_J9_max_7cf53 ⟨by decide, Nat.le_of_ble_eq_true rfl⟩ dX0_sharpnessAt_145 (q := 148) rfl ?_
      refine hR _ _ _ _ ?_ dX0_sharpnessAt_148
      refine ⟨?_, rfl⟩
      first | (simp [lookF, *]; done) | (simp only [lookF]; grind)
    refine v_tout hC dX0_sharpnessAt_81 (sw_out_1_5 hs81_0 hs81_1 hs81_2 hs81_3 hs81_4) (t := 149) rfl ?_
    refine v_iload_n hC rfl dX0_sharpnessAt_149 (q := 150) rfl ?_
    refine hR _ _ _ _ ?_ dX0_sharpnessAt_150
    refine ⟨?_, rfl⟩
    first | (simp [lookF, *]; done) | (simp only [lookF]; grind)
  have J59 : ∀ hup : ¬ v 3 = 1, ∀ z, z = broF k v o → V l X (rmk 1 21) C (va_up f q (oneV k v)) 59 [some (.ref (ga X q)), some (.int o), some (.int (plainF v o)), none, none] [.int z] := by
    rintro hup z rfl
    refine v_istore_3 hC rfl dX0_sharpnessAt_59 (q := 60) rfl ?_
    refine v_iload_n hC rfl dX0_sharpnessAt_60 (q := 61) rfl ?_
    refine v_iload_n hC rfl dX0_sharpnessAt_61 (q := 62) rfl ?_
    refine v_aload_n hC rfl dX0_sharpnessAt_62 (q := 63) rfl ?_
    refine v_get hC fl_X0_9 (k := q) hq (va_up_self _ _ _) rfl dX0_sharpnessAt_63 (q := 66) rfl ?_
    refine v_icmp_ge hC dX0_sharpnessAt_66 (t := 73) rfl (q := 69) rfl (fun h66 => ?_) (fun h66 => ?_)
    · refine v_iconst hC (v := 1) rfl dX0_sharpnessAt_73 (q := 74) rfl ?_
      refine v_imul hC dX0_sharpnessAt_74 (q := 75) rfl ?_
      exact J75 hup _ (by rw [briF, if_neg (Int32.not_lt.mpr h66), Int32.mul_one])
    · refine v_iconst hC (v := 2) rfl dX0_sharpnessAt_69 (q := 70) rfl ?_
      refine v_goto hC dX0_sharpnessAt_70 (t := 74) rfl ?_
      refine v_imul hC dX0_sharpnessAt_74 (q := 75) rfl ?_
      exact J75 hup _ (by rw [briF, if_pos (Int32.not_le.mp h66), Int32.mul_comm])
  have J41 : ∀ hup : ¬ v 3 = 1, ∀ z, z = plainF v o → V l X (rmk 1 21) C (va_up f q (oneV k v)) 41 [some (.ref (ga X q)), some (.int o), none, none, none] [.int z] := by
    rintro hup z rfl
    refine v_istore_2 hC rfl dX0_sharpnessAt_41 (q := 42) rfl ?_
    refine v_iload_n hC rfl dX0_sharpnessAt_42 (q := 43) rfl ?_
    refine v_iload_n hC rfl dX0_sharpnessAt_43 (q := 44) rfl ?_
    refine v_aload_n hC rfl dX0_sharpnessAt_44 (q := 45) rfl ?_
    refine v_get hC fl_X0_9 (k := q) hq (va_up_self _ _ _) rfl dX0_sharpnessAt_45 (q := 48) rfl ?_
    refine v_iconst hC (v := 1) rfl dX0_sharpnessAt_48 (q := 49) rfl ?_
    refine v_iadd hC dX0_sharpnessAt_49 (q := 50) rfl ?_
    refine v_icmp_ne hC dX0_sharpnessAt_50 (t := 57) rfl (q := 53) rfl (fun h50 => ?_) (fun h50 => ?_)
    · refine v_iconst hC (v := 0) rfl dX0_sharpnessAt_57 (q := 58) rfl ?_
      refine v_iadd hC dX0_sharpnessAt_58 (q := 59) rfl ?_
      exact J59 hup _ (by simp [broF, *])
    · refine v_iconst hC (v := 5) rfl dX0_sharpnessAt_53 (q := 54) rfl ?_
      refine v_goto hC dX0_sharpnessAt_54 (t := 58) rfl ?_
      refine v_iadd hC dX0_sharpnessAt_58 (q := 59) rfl ?_
      exact J59 hup _ (by simp [broF, *])
  refine v_aload_n hC rfl dX0_sharpnessAt_0 (q := 1) rfl ?_
  refine v_get hC fl_X0_24 (k := q) hq (va_up_self _ _ _) rfl dX0_sharpnessAt_1 (q := 4) rfl ?_
  refine v_iconst hC (v := 1) rfl dX0_sharpnessAt_4 (q := 5) rfl ?_
  refine v_icmp_ne hC dX0_sharpnessAt_5 (t := 11) rfl (q := 8) rfl (fun h5 => ?_) (fun h5 => ?_)
  · refine v_iload_n hC rfl dX0_sharpnessAt_11 (q := 12) rfl ?_
    refine v_aload_n hC rfl dX0_sharpnessAt_12 (q := 13) rfl ?_
    refine v_get hC fl_X0_27 (k := q) hq (va_up_self _ _ _) rfl dX0_sharpnessAt_13 (q := 16) rfl ?_
    refine v_icmp_ne hC dX0_sharpnessAt_16 (t := 35) rfl (q := 19) rfl (fun h16 => ?_) (fun h16 => ?_)
    · refine v_aload_n hC rfl dX0_sharpnessAt_35 (q := 36) rfl ?_
      refine v_get hC fl_X0_33 (k := q) hq (va_up_self _ _ _) rfl dX0_sharpnessAt_36 (q := 39) rfl ?_
      refine v_iconst hC (v := 2) rfl dX0_sharpnessAt_39 (q := 40) rfl ?_
      refine v_idiv hC (by decide) dX0_sharpnessAt_40 (q := 41) rfl ?_
      exact J41 h5 _ (by rw [plainF, if_neg h16])
    · refine v_iconst hC (v := 0) rfl dX0_sharpnessAt_19 (q := 20) rfl ?_
      refine v_aload_n hC rfl dX0_sharpnessAt_20 (q := 21) rfl ?_
      refine v_get hC fl_X0_30 (k := q) hq (va_up_self _ _ _) rfl dX0_sharpnessAt_21 (q := 24) rfl ?_
      refine v_aload_n hC rfl dX0_sharpnessAt_24 (q := 25) rfl ?_
      refine v_get hC fl_X0_33 (k := q) hq (va_up_self _ _ _) rfl dX0_sharpnessAt_25 (q := 28) rfl ?_
      refine v_isub hC dX0_sharpnessAt_28 (q := 29) rfl ?_
      refine v_max hC wm_X0_61 wt_J9_max_7cf53 wi_J9 wd_J9_max_7cf53 ⟨by decide, Nat.le_of_ble_eq_true rfl⟩ dX0_sharpnessAt_29 (q := 32) rfl ?_
      refine v_goto hC dX0_sharpnessAt_32 (t := 41) rfl ?_
      exact J41 h5 _ (by rw [plainF, if_pos h16]; exact max_held hv.2.2.2.2.2.1.2 hv.2.2.2.2.2.2.1 hv.2.2.2.2.2.1.1 hv.2.2.2.2.2.2.2)
  · refine v_bipush hC (v := 50) rfl dX0_sharpnessAt_8 (q := 10) rfl ?_
    refine hR _ _ _ _ ?_ dX0_sharpnessAt_10
    refine ⟨?_, rfl⟩
    first | (simp [lookF, *]; done) | (simp only [lookF]; grind)

set_option maxHeartbeats 4000000 in
set_option maxRecDepth 100000 in
theorem c_X0_sharpnessAtItsOne {l : Launch} {X : Gx} {f : Hp} {q : Nat} (hq : q < 56) {k : Int32} {v : Nat → Int32} (hv : okV v) : Ci l X yX0_sharpnessAtItsOne cX0_sharpnessAtItsOne 1 (some .int) (rmk 2 45) [.ref (ga X q)] (va_up f q (oneV k v)) (fun z g => z = sightF k v ∧ g = va_up f q (oneV k v)) := by
  refine ct_i (own := RX0) (lv := [some (.ref (ga X q))]) (by decide) rfl (Nat.le_of_ble_eq_true rfl) (Nat.le_of_ble_eq_true rfl) rfl (fun C hC hR => ?_)
  refine v_aload_n hC rfl dX0_sharpnessAtItsOne_0 (q := 1) rfl ?_
  refine v_get hC fl_X0_21 (k := q) hq (va_up_self _ _ _) rfl dX0_sharpnessAtItsOne_1 (q := 4) rfl ?_
  refine v_iconst hC (v := (-1)) rfl dX0_sharpnessAtItsOne_4 (q := 5) rfl ?_
  refine v_icmp_ne hC dX0_sharpnessAtItsOne_5 (t := 12) rfl (q := 8) rfl (fun h5 => ?_) (fun h5 => ?_)
  · refine v_aload_n hC rfl dX0_sharpnessAtItsOne_12 (q := 13) rfl ?_
    refine v_aload_n hC rfl dX0_sharpnessAtItsOne_13 (q := 14) rfl ?_
    refine v_get hC fl_X0_21 (k := q) hq (va_up_self _ _ _) rfl dX0_sharpnessAtItsOne_14 (q := 17) rfl ?_
    refine v_Vi hC lkV_X0_64 (c_X0_sharpnessAt hq hv) rfl (by decide) (k := q) hq (va_up_self _ _ _) rfl rfl (Nat.le_of_ble_eq_true rfl) dX0_sharpnessAtItsOne_17 (q := 20) rfl ?_
    rintro _ _ ⟨rfl, rfl⟩
    refine hR _ _ _ _ ?_ dX0_sharpnessAtItsOne_20
    refine ⟨?_, rfl⟩
    have h2 := hv.2.2.1
    have : ¬ v 2 < 0 := by grind
    rw [sightF, if_neg this]
  · refine v_iconst hC (v := 0) rfl dX0_sharpnessAtItsOne_8 (q := 9) rfl ?_
    refine v_goto hC dX0_sharpnessAtItsOne_9 (t := 20) rfl ?_
    refine hR _ _ _ _ ?_ dX0_sharpnessAtItsOne_20
    refine ⟨?_, rfl⟩
    have h2 := hv.2.2.1
    have : v 2 < 0 := by rw [h5]; decide
    rw [sightF, if_pos this]

set_option maxHeartbeats 4000000 in
set_option maxRecDepth 100000 in
theorem c_X0_forgiving {l : Launch} {X : Gx} {f : Hp} {q : Nat} (hq : q < 56) {k : Int32} {v : Nat → Int32} : Ci l X yX0_forgiving cX0_forgiving 5 (some .int) (rmk 0 0) [.ref (ga X q), .int (sightF k v)] (va_up f q (oneV k v)) (fun z g => z = easeF k v ∧ g = va_up f q (oneV k v)) := by
  refine ct_i (own := RX0) (lv := [some (.ref (ga X q)), some (.int (sightF k v)), none, none, none]) (by decide) rfl (Nat.le_of_ble_eq_true rfl) (Nat.le_of_ble_eq_true rfl) rfl (fun C hC hR => ?_)
  refine v_iload_n hC rfl dX0_forgiving_0 (q := 1) rfl ?_
  refine v_bipush hC (v := 30) rfl dX0_forgiving_1 (q := 3) rfl ?_
  refine v_icmp_ge hC dX0_forgiving_3 (t := 10) rfl (q := 6) rfl (fun h3 => ?_) (fun h3 => ?_)
  · refine v_iconst hC (v := 0) rfl dX0_forgiving_10 (q := 11) rfl ?_
    refine v_istore_2 hC rfl dX0_forgiving_11 (q := 12) rfl ?_
    refine v_aload_n hC rfl dX0_forgiving_12 (q := 13) rfl ?_
    refine v_get hC fl_X0_18 (k := q) hq (va_up_self _ _ _) rfl dX0_forgiving_13 (q := 16) rfl ?_
    refine v_bipush hC (v := 50) rfl dX0_forgiving_16 (q := 18) rfl ?_
    refine v_icmp_le hC dX0_forgiving_18 (t := 25) rfl (q := 21) rfl (fun h18 => ?_) (fun h18 => ?_)
    · refine v_iload_n hC rfl dX0_forgiving_25 (q := 26) rfl ?_
      refine v_istore_3 hC rfl dX0_forgiving_26 (q := 27) rfl ?_
      refine v_iconst hC (v := 2) rfl dX0_forgiving_27 (q := 28) rfl ?_
      refine v_iload_n hC rfl dX0_forgiving_28 (q := 29) rfl ?_
      refine v_imul hC dX0_forgiving_29 (q := 30) rfl ?_
      refine v_istore_4 hC rfl dX0_forgiving_30 (q := 32) rfl ?_
      refine v_aload_n hC rfl dX0_forgiving_32 (q := 33) rfl ?_
      refine v_get hC fl_X0_15 (k := q) hq (va_up_self _ _ _) rfl dX0_forgiving_33 (q := 36) rfl ?_
      refine v_em 1 (fun hs36_0 => ?_) (fun hs36_0 => ?_)
      · refine v_tin hC dX0_forgiving_36 (by decide) (by decide) rfl (t := 72) rfl ?_
        refine v_iload_n hC rfl dX0_forgiving_72 (q := 73) rfl ?_
        refine hR _ _ _ _ ?_ dX0_forgiving_73
        refine ⟨?_, rfl⟩
        first | (simp [easeF, easeP, *]; done) | (simp only [easeF, easeP]; grind)
      refine v_em 2 (fun hs36_1 => ?_) (fun hs36_1 => ?_)
      · refine v_tin hC dX0_forgiving_36 (by decide) (by decide) rfl (t := 74) rfl ?_
        refine v_iload hC rfl dX0_forgiving_74 (q := 76) rfl ?_
        refine hR _ _ _ _ ?_ dX0_forgiving_76
        refine ⟨?_, rfl⟩
        first | (simp [easeF, easeP, *]; done) | (simp only [easeF, easeP]; grind)
      refine v_em 3 (fun hs36_2 => ?_) (fun hs36_2 => ?_)
      · refine v_tin hC dX0_forgiving_36 (by decide) (by decide) rfl (t := 77) rfl ?_
        refine v_iconst hC (v := 3) rfl dX0_forgiving_77 (q := 78) rfl ?_
        refine hR _ _ _ _ ?_ dX0_forgiving_78
        refine ⟨?_, rfl⟩
        first | (simp [easeF, easeP, *]; done) | (simp only [easeF, easeP]; grind)
      refine v_em 4 (fun hs36_3 => ?_) (fun hs36_3 => ?_)
      · refine v_tin hC dX0_forgiving_36 (by decide) (by decide) rfl (t := 79) rfl ?_
        refine v_iload_n hC rfl dX0_forgiving_79 (q := 80) rfl ?_
        refine hR _ _ _ _ ?_ dX0_forgiving_80
        refine ⟨?_, rfl⟩
        first | (simp [easeF, easeP, *]; done) | (simp only [easeF, easeP]; grind)
      refine v_em 5 (fun hs36_4 => ?_) (fun hs36_4 => ?_)
      · refine v_tin hC dX0_forgiving_36 (by decide) (by decide) rfl (t := 81) rfl ?_
        refine v_iload hC rfl dX0_forgiving_81 (q := 83) rfl ?_
        refine v_aload_n hC rfl dX0_forgiving_83 (q := 84) rfl ?_
        refine v_get hC fl_X0_24 (k := q) hq (va_up_self _ _ _) rfl dX0_forgiving_84 (q := 87) rfl ?_
        refine v_iadd hC dX0_forgiving_87 (q := 88) rfl ?_
        refine hR _ _ _ _ ?_ dX0_forgiving_88
        refine ⟨?_, rfl⟩
        first | (simp [easeF, easeP, *]; done) | (simp only [easeF, easeP]; grind)
      refine v_tout hC dX0_forgiving_36 (sw_out_1_5 hs36_0 hs36_1 hs36_2 hs36_3 hs36_4) (t := 89) rfl ?_
      refine v_iload_n hC rfl dX0_forgiving_89 (q := 90) rfl ?_
      refine hR _ _ _ _ ?_ dX0_forgiving_90
      refine ⟨?_, rfl⟩
      first | (simp [easeF, easeP, *]; done) | (simp only [easeF, easeP]; grind)
    · refine v_iconst hC (v := 0) rfl dX0_forgiving_21 (q := 22) rfl ?_
      refine v_goto hC dX0_forgiving_22 (t := 26) rfl ?_
      refine v_istore_3 hC rfl dX0_forgiving_26 (q := 27) rfl ?_
      refine v_iconst hC (v := 2) rfl dX0_forgiving_27 (q := 28) rfl ?_
      refine v_iload_n hC rfl dX0_forgiving_28 (q := 29) rfl ?_
      refine v_imul hC dX0_forgiving_29 (q := 30) rfl ?_
      refine v_istore_4 hC rfl dX0_forgiving_30 (q := 32) rfl ?_
      refine v_aload_n hC rfl dX0_forgiving_32 (q := 33) rfl ?_
      refine v_get hC fl_X0_15 (k := q) hq (va_up_self _ _ _) rfl dX0_forgiving_33 (q := 36) rfl ?_
      refine v_em 1 (fun hs36_0 => ?_) (fun hs36_0 => ?_)
      · refine v_tin hC dX0_forgiving_36 (by decide) (by decide) rfl (t := 72) rfl ?_
        refine v_iload_n hC rfl dX0_forgiving_72 (q := 73) rfl ?_
        refine hR _ _ _ _ ?_ dX0_forgiving_73
        refine ⟨?_, rfl⟩
        first | (simp [easeF, easeP, *]; done) | (simp only [easeF, easeP]; grind)
      refine v_em 2 (fun hs36_1 => ?_) (fun hs36_1 => ?_)
      · refine v_tin hC dX0_forgiving_36 (by decide) (by decide) rfl (t := 74) rfl ?_
        refine v_iload hC rfl dX0_forgiving_74 (q := 76) rfl ?_
        refine hR _ _ _ _ ?_ dX0_forgiving_76
        refine ⟨?_, rfl⟩
        first | (simp [easeF, easeP, *]; done) | (simp only [easeF, easeP]; grind)
      refine v_em 3 (fun hs36_2 => ?_) (fun hs36_2 => ?_)
      · refine v_tin hC dX0_forgiving_36 (by decide) (by decide) rfl (t := 77) rfl ?_
        refine v_iconst hC (v := 3) rfl dX0_forgiving_77 (q := 78) rfl ?_
        refine hR _ _ _ _ ?_ dX0_forgiving_78
        refine ⟨?_, rfl⟩
        first | (simp [easeF, easeP, *]; done) | (simp only [easeF, easeP]; grind)
      refine v_em 4 (fun hs36_3 => ?_) (fun hs36_3 => ?_)
      · refine v_tin hC dX0_forgiving_36 (by decide) (by decide) rfl (t := 79) rfl ?_
        refine v_iload_n hC rfl dX0_forgiving_79 (q := 80) rfl ?_
        refine hR _ _ _ _ ?_ dX0_forgiving_80
        refine ⟨?_, rfl⟩
        first | (simp [easeF, easeP, *]; done) | (simp only [easeF, easeP]; grind)
      refine v_em 5 (fun hs36_4 => ?_) (fun hs36_4 => ?_)
      · refine v_tin hC dX0_forgiving_36 (by decide) (by decide) rfl (t := 81) rfl ?_
        refine v_iload hC rfl dX0_forgiving_81 (q := 83) rfl ?_
        refine v_aload_n hC rfl dX0_forgiving_83 (q := 84) rfl ?_
        refine v_get hC fl_X0_24 (k := q) hq (va_up_self _ _ _) rfl dX0_forgiving_84 (q := 87) rfl ?_
        refine v_iadd hC dX0_forgiving_87 (q := 88) rfl ?_
        refine hR _ _ _ _ ?_ dX0_forgiving_88
        refine ⟨?_, rfl⟩
        first | (simp [easeF, easeP, *]; done) | (simp only [easeF, easeP]; grind)
      refine v_tout hC dX0_forgiving_36 (sw_out_1_5 hs36_0 hs36_1 hs36_2 hs36_3 hs36_4) (t := 89) rfl ?_
      refine v_iload_n hC rfl dX0_forgiving_89 (q := 90) rfl ?_
      refine hR _ _ _ _ ?_ dX0_forgiving_90
      refine ⟨?_, rfl⟩
      first | (simp [easeF, easeP, *]; done) | (simp only [easeF, easeP]; grind)
  · refine v_iconst hC (v := 1) rfl dX0_forgiving_6 (q := 7) rfl ?_
    refine v_goto hC dX0_forgiving_7 (t := 11) rfl ?_
    refine v_istore_2 hC rfl dX0_forgiving_11 (q := 12) rfl ?_
    refine v_aload_n hC rfl dX0_forgiving_12 (q := 13) rfl ?_
    refine v_get hC fl_X0_18 (k := q) hq (va_up_self _ _ _) rfl dX0_forgiving_13 (q := 16) rfl ?_
    refine v_bipush hC (v := 50) rfl dX0_forgiving_16 (q := 18) rfl ?_
    refine v_icmp_le hC dX0_forgiving_18 (t := 25) rfl (q := 21) rfl (fun h18 => ?_) (fun h18 => ?_)
    · refine v_iload_n hC rfl dX0_forgiving_25 (q := 26) rfl ?_
      refine v_istore_3 hC rfl dX0_forgiving_26 (q := 27) rfl ?_
      refine v_iconst hC (v := 2) rfl dX0_forgiving_27 (q := 28) rfl ?_
      refine v_iload_n hC rfl dX0_forgiving_28 (q := 29) rfl ?_
      refine v_imul hC dX0_forgiving_29 (q := 30) rfl ?_
      refine v_istore_4 hC rfl dX0_forgiving_30 (q := 32) rfl ?_
      refine v_aload_n hC rfl dX0_forgiving_32 (q := 33) rfl ?_
      refine v_get hC fl_X0_15 (k := q) hq (va_up_self _ _ _) rfl dX0_forgiving_33 (q := 36) rfl ?_
      refine v_em 1 (fun hs36_0 => ?_) (fun hs36_0 => ?_)
      · refine v_tin hC dX0_forgiving_36 (by decide) (by decide) rfl (t := 72) rfl ?_
        refine v_iload_n hC rfl dX0_forgiving_72 (q := 73) rfl ?_
        refine hR _ _ _ _ ?_ dX0_forgiving_73
        refine ⟨?_, rfl⟩
        first | (simp [easeF, easeP, *]; done) | (simp only [easeF, easeP]; grind)
      refine v_em 2 (fun hs36_1 => ?_) (fun hs36_1 => ?_)
      · refine v_tin hC dX0_forgiving_36 (by decide) (by decide) rfl (t := 74) rfl ?_
        refine v_iload hC rfl dX0_forgiving_74 (q := 76) rfl ?_
        refine hR _ _ _ _ ?_ dX0_forgiving_76
        refine ⟨?_, rfl⟩
        first | (simp [easeF, easeP, *]; done) | (simp only [easeF, easeP]; grind)
      refine v_em 3 (fun hs36_2 => ?_) (fun hs36_2 => ?_)
      · refine v_tin hC dX0_forgiving_36 (by decide) (by decide) rfl (t := 77) rfl ?_
        refine v_iconst hC (v := 3) rfl dX0_forgiving_77 (q := 78) rfl ?_
        refine hR _ _ _ _ ?_ dX0_forgiving_78
        refine ⟨?_, rfl⟩
        first | (simp [easeF, easeP, *]; done) | (simp only [easeF, easeP]; grind)
      refine v_em 4 (fun hs36_3 => ?_) (fun hs36_3 => ?_)
      · refine v_tin hC dX0_forgiving_36 (by decide) (by decide) rfl (t := 79) rfl ?_
        refine v_iload_n hC rfl dX0_forgiving_79 (q := 80) rfl ?_
        refine hR _ _ _ _ ?_ dX0_forgiving_80
        refine ⟨?_, rfl⟩
        first | (simp [easeF, easeP, *]; done) | (simp only [easeF, easeP]; grind)
      refine v_em 5 (fun hs36_4 => ?_) (fun hs36_4 => ?_)
      · refine v_tin hC dX0_forgiving_36 (by decide) (by decide) rfl (t := 81) rfl ?_
        refine v_iload hC rfl dX0_forgiving_81 (q := 83) rfl ?_
        refine v_aload_n hC rfl dX0_forgiving_83 (q := 84) rfl ?_
        refine v_get hC fl_X0_24 (k := q) hq (va_up_self _ _ _) rfl dX0_forgiving_84 (q := 87) rfl ?_
        refine v_iadd hC dX0_forgiving_87 (q := 88) rfl ?_
        refine hR _ _ _ _ ?_ dX0_forgiving_88
        refine ⟨?_, rfl⟩
        first | (simp [easeF, easeP, *]; done) | (simp only [easeF, easeP]; grind)
      refine v_tout hC dX0_forgiving_36 (sw_out_1_5 hs36_0 hs36_1 hs36_2 hs36_3 hs36_4) (t := 89) rfl ?_
      refine v_iload_n hC rfl dX0_forgiving_89 (q := 90) rfl ?_
      refine hR _ _ _ _ ?_ dX0_forgiving_90
      refine ⟨?_, rfl⟩
      first | (simp [easeF, easeP, *]; done) | (simp only [easeF, easeP]; grind)
    · refine v_iconst hC (v := 0) rfl dX0_forgiving_21 (q := 22) rfl ?_
      refine v_goto hC dX0_forgiving_22 (t := 26) rfl ?_
      refine v_istore_3 hC rfl dX0_forgiving_26 (q := 27) rfl ?_
      refine v_iconst hC (v := 2) rfl dX0_forgiving_27 (q := 28) rfl ?_
      refine v_iload_n hC rfl dX0_forgiving_28 (q := 29) rfl ?_
      refine v_imul hC dX0_forgiving_29 (q := 30) rfl ?_
      refine v_istore_4 hC rfl dX0_forgiving_30 (q := 32) rfl ?_
      refine v_aload_n hC rfl dX0_forgiving_32 (q := 33) rfl ?_
      refine v_get hC fl_X0_15 (k := q) hq (va_up_self _ _ _) rfl dX0_forgiving_33 (q := 36) rfl ?_
      refine v_em 1 (fun hs36_0 => ?_) (fun hs36_0 => ?_)
      · refine v_tin hC dX0_forgiving_36 (by decide) (by decide) rfl (t := 72) rfl ?_
        refine v_iload_n hC rfl dX0_forgiving_72 (q := 73) rfl ?_
        refine hR _ _ _ _ ?_ dX0_forgiving_73
        refine ⟨?_, rfl⟩
        first | (simp [easeF, easeP, *]; done) | (simp only [easeF, easeP]; grind)
      refine v_em 2 (fun hs36_1 => ?_) (fun hs36_1 => ?_)
      · refine v_tin hC dX0_forgiving_36 (by decide) (by decide) rfl (t := 74) rfl ?_
        refine v_iload hC rfl dX0_forgiving_74 (q := 76) rfl ?_
        refine hR _ _ _ _ ?_ dX0_forgiving_76
        refine ⟨?_, rfl⟩
        first | (simp [easeF, easeP, *]; done) | (simp only [easeF, easeP]; grind)
      refine v_em 3 (fun hs36_2 => ?_) (fun hs36_2 => ?_)
      · refine v_tin hC dX0_forgiving_36 (by decide) (by decide) rfl (t := 77) rfl ?_
        refine v_iconst hC (v := 3) rfl dX0_forgiving_77 (q := 78) rfl ?_
        refine hR _ _ _ _ ?_ dX0_forgiving_78
        refine ⟨?_, rfl⟩
        first | (simp [easeF, easeP, *]; done) | (simp only [easeF, easeP]; grind)
      refine v_em 4 (fun hs36_3 => ?_) (fun hs36_3 => ?_)
      · refine v_tin hC dX0_forgiving_36 (by decide) (by decide) rfl (t := 79) rfl ?_
        refine v_iload_n hC rfl dX0_forgiving_79 (q := 80) rfl ?_
        refine hR _ _ _ _ ?_ dX0_forgiving_80
        refine ⟨?_, rfl⟩
        first | (simp [easeF, easeP, *]; done) | (simp only [easeF, easeP]; grind)
      refine v_em 5 (fun hs36_4 => ?_) (fun hs36_4 => ?_)
      · refine v_tin hC dX0_forgiving_36 (by decide) (by decide) rfl (t := 81) rfl ?_
        refine v_iload hC rfl dX0_forgiving_81 (q := 83) rfl ?_
        refine v_aload_n hC rfl dX0_forgiving_83 (q := 84) rfl ?_
        refine v_get hC fl_X0_24 (k := q) hq (va_up_self _ _ _) rfl dX0_forgiving_84 (q := 87) rfl ?_
        refine v_iadd hC dX0_forgiving_87 (q := 88) rfl ?_
        refine hR _ _ _ _ ?_ dX0_forgiving_88
        refine ⟨?_, rfl⟩
        first | (simp [easeF, easeP, *]; done) | (simp only [easeF, easeP]; grind)
      refine v_tout hC dX0_forgiving_36 (sw_out_1_5 hs36_0 hs36_1 hs36_2 hs36_3 hs36_4) (t := 89) rfl ?_
      refine v_iload_n hC rfl dX0_forgiving_89 (q := 90) rfl ?_
      refine hR _ _ _ _ ?_ dX0_forgiving_90
      refine ⟨?_, rfl⟩
      first | (simp [easeF, easeP, *]; done) | (simp only [easeF, easeP]; grind)

set_option maxHeartbeats 4000000 in
set_option maxRecDepth 100000 in
theorem c_X0_growing {l : Launch} {X : Gx} {f : Hp} {q : Nat} (hq : q < 56) {k : Int32} {v : Nat → Int32} : Ci l X yX0_growing cX0_growing 4 (some .int) (rmk 0 0) [.ref (ga X q), .int (sightF k v)] (va_up f q (oneV k v)) (fun z g => z = growF k v ∧ g = va_up f q (oneV k v)) := by
  refine ct_i (own := RX0) (lv := [some (.ref (ga X q)), some (.int (sightF k v)), none, none]) (by decide) rfl (Nat.le_of_ble_eq_true rfl) (Nat.le_of_ble_eq_true rfl) rfl (fun C hC hR => ?_)
  refine v_iload_n hC rfl dX0_growing_0 (q := 1) rfl ?_
  refine v_bipush hC (v := 60) rfl dX0_growing_1 (q := 3) rfl ?_
  refine v_icmp_lt hC dX0_growing_3 (t := 10) rfl (q := 6) rfl (fun h3 => ?_) (fun h3 => ?_)
  · refine v_iconst hC (v := 0) rfl dX0_growing_10 (q := 11) rfl ?_
    refine v_istore_2 hC rfl dX0_growing_11 (q := 12) rfl ?_
    refine v_iload_n hC rfl dX0_growing_12 (q := 13) rfl ?_
    refine v_iload_n hC rfl dX0_growing_13 (q := 14) rfl ?_
    refine v_bipush hC (v := 80) rfl dX0_growing_14 (q := 16) rfl ?_
    refine v_icmp_lt hC dX0_growing_16 (t := 23) rfl (q := 19) rfl (fun h16 => ?_) (fun h16 => ?_)
    · refine v_iconst hC (v := 0) rfl dX0_growing_23 (q := 24) rfl ?_
      refine v_iadd hC dX0_growing_24 (q := 25) rfl ?_
      refine v_istore_3 hC rfl dX0_growing_25 (q := 26) rfl ?_
      refine v_aload_n hC rfl dX0_growing_26 (q := 27) rfl ?_
      refine v_get hC fl_X0_15 (k := q) hq (va_up_self _ _ _) rfl dX0_growing_27 (q := 30) rfl ?_
      refine v_em 1 (fun hs30_0 => ?_) (fun hs30_0 => ?_)
      · refine v_tin hC dX0_growing_30 (by decide) (by decide) rfl (t := 60) rfl ?_
        refine v_iload_n hC rfl dX0_growing_60 (q := 61) rfl ?_
        refine hR _ _ _ _ ?_ dX0_growing_61
        refine ⟨?_, rfl⟩
        first | (simp [growF, growB, growP, *]; done) | (simp only [growF, growB, growP]; grind)
      refine v_em 2 (fun hs30_1 => ?_) (fun hs30_1 => ?_)
      · refine v_tin hC dX0_growing_30 (by decide) (by decide) rfl (t := 68) rfl ?_
        refine v_iload_n hC rfl dX0_growing_68 (q := 69) rfl ?_
        refine hR _ _ _ _ ?_ dX0_growing_69
        refine ⟨?_, rfl⟩
        first | (simp [growF, growB, growP, *]; done) | (simp only [growF, growB, growP]; grind)
      refine v_em 3 (fun hs30_2 => ?_) (fun hs30_2 => ?_)
      · refine v_tin hC dX0_growing_30 (by decide) (by decide) rfl (t := 62) rfl ?_
        refine v_iconst hC (v := 0) rfl dX0_growing_62 (q := 63) rfl ?_
        refine hR _ _ _ _ ?_ dX0_growing_63
        refine ⟨?_, rfl⟩
        first | (simp [growF, growB, growP, *]; done) | (simp only [growF, growB, growP]; grind)
      refine v_em 4 (fun hs30_3 => ?_) (fun hs30_3 => ?_)
      · refine v_tin hC dX0_growing_30 (by decide) (by decide) rfl (t := 64) rfl ?_
        refine v_iconst hC (v := 2) rfl dX0_growing_64 (q := 65) rfl ?_
        refine v_iload_n hC rfl dX0_growing_65 (q := 66) rfl ?_
        refine v_imul hC dX0_growing_66 (q := 67) rfl ?_
        refine hR _ _ _ _ ?_ dX0_growing_67
        refine ⟨?_, rfl⟩
        first | (simp [growF, growB, growP, *]; done) | (simp only [growF, growB, growP]; grind)
      refine v_tout hC dX0_growing_30 (sw_out_1_4 hs30_0 hs30_1 hs30_2 hs30_3) (t := 68) rfl ?_
      refine v_iload_n hC rfl dX0_growing_68 (q := 69) rfl ?_
      refine hR _ _ _ _ ?_ dX0_growing_69
      refine ⟨?_, rfl⟩
      first | (simp [growF, growB, growP, *]; done) | (simp only [growF, growB, growP]; grind)
    · refine v_iconst hC (v := 1) rfl dX0_growing_19 (q := 20) rfl ?_
      refine v_goto hC dX0_growing_20 (t := 24) rfl ?_
      refine v_iadd hC dX0_growing_24 (q := 25) rfl ?_
      refine v_istore_3 hC rfl dX0_growing_25 (q := 26) rfl ?_
      refine v_aload_n hC rfl dX0_growing_26 (q := 27) rfl ?_
      refine v_get hC fl_X0_15 (k := q) hq (va_up_self _ _ _) rfl dX0_growing_27 (q := 30) rfl ?_
      refine v_em 1 (fun hs30_0 => ?_) (fun hs30_0 => ?_)
      · refine v_tin hC dX0_growing_30 (by decide) (by decide) rfl (t := 60) rfl ?_
        refine v_iload_n hC rfl dX0_growing_60 (q := 61) rfl ?_
        refine hR _ _ _ _ ?_ dX0_growing_61
        refine ⟨?_, rfl⟩
        first | (simp [growF, growB, growP, *]; done) | (simp only [growF, growB, growP]; grind)
      refine v_em 2 (fun hs30_1 => ?_) (fun hs30_1 => ?_)
      · refine v_tin hC dX0_growing_30 (by decide) (by decide) rfl (t := 68) rfl ?_
        refine v_iload_n hC rfl dX0_growing_68 (q := 69) rfl ?_
        refine hR _ _ _ _ ?_ dX0_growing_69
        refine ⟨?_, rfl⟩
        first | (simp [growF, growB, growP, *]; done) | (simp only [growF, growB, growP]; grind)
      refine v_em 3 (fun hs30_2 => ?_) (fun hs30_2 => ?_)
      · refine v_tin hC dX0_growing_30 (by decide) (by decide) rfl (t := 62) rfl ?_
        refine v_iconst hC (v := 0) rfl dX0_growing_62 (q := 63) rfl ?_
        refine hR _ _ _ _ ?_ dX0_growing_63
        refine ⟨?_, rfl⟩
        first | (simp [growF, growB, growP, *]; done) | (simp only [growF, growB, growP]; grind)
      refine v_em 4 (fun hs30_3 => ?_) (fun hs30_3 => ?_)
      · refine v_tin hC dX0_growing_30 (by decide) (by decide) rfl (t := 64) rfl ?_
        refine v_iconst hC (v := 2) rfl dX0_growing_64 (q := 65) rfl ?_
        refine v_iload_n hC rfl dX0_growing_65 (q := 66) rfl ?_
        refine v_imul hC dX0_growing_66 (q := 67) rfl ?_
        refine hR _ _ _ _ ?_ dX0_growing_67
        refine ⟨?_, rfl⟩
        first | (simp [growF, growB, growP, *]; done) | (simp only [growF, growB, growP]; grind)
      refine v_tout hC dX0_growing_30 (sw_out_1_4 hs30_0 hs30_1 hs30_2 hs30_3) (t := 68) rfl ?_
      refine v_iload_n hC rfl dX0_growing_68 (q := 69) rfl ?_
      refine hR _ _ _ _ ?_ dX0_growing_69
      refine ⟨?_, rfl⟩
      first | (simp [growF, growB, growP, *]; done) | (simp only [growF, growB, growP]; grind)
  · refine v_iconst hC (v := 1) rfl dX0_growing_6 (q := 7) rfl ?_
    refine v_goto hC dX0_growing_7 (t := 11) rfl ?_
    refine v_istore_2 hC rfl dX0_growing_11 (q := 12) rfl ?_
    refine v_iload_n hC rfl dX0_growing_12 (q := 13) rfl ?_
    refine v_iload_n hC rfl dX0_growing_13 (q := 14) rfl ?_
    refine v_bipush hC (v := 80) rfl dX0_growing_14 (q := 16) rfl ?_
    refine v_icmp_lt hC dX0_growing_16 (t := 23) rfl (q := 19) rfl (fun h16 => ?_) (fun h16 => ?_)
    · refine v_iconst hC (v := 0) rfl dX0_growing_23 (q := 24) rfl ?_
      refine v_iadd hC dX0_growing_24 (q := 25) rfl ?_
      refine v_istore_3 hC rfl dX0_growing_25 (q := 26) rfl ?_
      refine v_aload_n hC rfl dX0_growing_26 (q := 27) rfl ?_
      refine v_get hC fl_X0_15 (k := q) hq (va_up_self _ _ _) rfl dX0_growing_27 (q := 30) rfl ?_
      refine v_em 1 (fun hs30_0 => ?_) (fun hs30_0 => ?_)
      · refine v_tin hC dX0_growing_30 (by decide) (by decide) rfl (t := 60) rfl ?_
        refine v_iload_n hC rfl dX0_growing_60 (q := 61) rfl ?_
        refine hR _ _ _ _ ?_ dX0_growing_61
        refine ⟨?_, rfl⟩
        first | (simp [growF, growB, growP, *]; done) | (simp only [growF, growB, growP]; grind)
      refine v_em 2 (fun hs30_1 => ?_) (fun hs30_1 => ?_)
      · refine v_tin hC dX0_growing_30 (by decide) (by decide) rfl (t := 68) rfl ?_
        refine v_iload_n hC rfl dX0_growing_68 (q := 69) rfl ?_
        refine hR _ _ _ _ ?_ dX0_growing_69
        refine ⟨?_, rfl⟩
        first | (simp [growF, growB, growP, *]; done) | (simp only [growF, growB, growP]; grind)
      refine v_em 3 (fun hs30_2 => ?_) (fun hs30_2 => ?_)
      · refine v_tin hC dX0_growing_30 (by decide) (by decide) rfl (t := 62) rfl ?_
        refine v_iconst hC (v := 0) rfl dX0_growing_62 (q := 63) rfl ?_
        refine hR _ _ _ _ ?_ dX0_growing_63
        refine ⟨?_, rfl⟩
        first | (simp [growF, growB, growP, *]; done) | (simp only [growF, growB, growP]; grind)
      refine v_em 4 (fun hs30_3 => ?_) (fun hs30_3 => ?_)
      · refine v_tin hC dX0_growing_30 (by decide) (by decide) rfl (t := 64) rfl ?_
        refine v_iconst hC (v := 2) rfl dX0_growing_64 (q := 65) rfl ?_
        refine v_iload_n hC rfl dX0_growing_65 (q := 66) rfl ?_
        refine v_imul hC dX0_growing_66 (q := 67) rfl ?_
        refine hR _ _ _ _ ?_ dX0_growing_67
        refine ⟨?_, rfl⟩
        first | (simp [growF, growB, growP, *]; done) | (simp only [growF, growB, growP]; grind)
      refine v_tout hC dX0_growing_30 (sw_out_1_4 hs30_0 hs30_1 hs30_2 hs30_3) (t := 68) rfl ?_
      refine v_iload_n hC rfl dX0_growing_68 (q := 69) rfl ?_
      refine hR _ _ _ _ ?_ dX0_growing_69
      refine ⟨?_, rfl⟩
      first | (simp [growF, growB, growP, *]; done) | (simp only [growF, growB, growP]; grind)
    · refine v_iconst hC (v := 1) rfl dX0_growing_19 (q := 20) rfl ?_
      refine v_goto hC dX0_growing_20 (t := 24) rfl ?_
      refine v_iadd hC dX0_growing_24 (q := 25) rfl ?_
      refine v_istore_3 hC rfl dX0_growing_25 (q := 26) rfl ?_
      refine v_aload_n hC rfl dX0_growing_26 (q := 27) rfl ?_
      refine v_get hC fl_X0_15 (k := q) hq (va_up_self _ _ _) rfl dX0_growing_27 (q := 30) rfl ?_
      refine v_em 1 (fun hs30_0 => ?_) (fun hs30_0 => ?_)
      · refine v_tin hC dX0_growing_30 (by decide) (by decide) rfl (t := 60) rfl ?_
        refine v_iload_n hC rfl dX0_growing_60 (q := 61) rfl ?_
        refine hR _ _ _ _ ?_ dX0_growing_61
        refine ⟨?_, rfl⟩
        first | (simp [growF, growB, growP, *]; done) | (simp only [growF, growB, growP]; grind)
      refine v_em 2 (fun hs30_1 => ?_) (fun hs30_1 => ?_)
      · refine v_tin hC dX0_growing_30 (by decide) (by decide) rfl (t := 68) rfl ?_
        refine v_iload_n hC rfl dX0_growing_68 (q := 69) rfl ?_
        refine hR _ _ _ _ ?_ dX0_growing_69
        refine ⟨?_, rfl⟩
        first | (simp [growF, growB, growP, *]; done) | (simp only [growF, growB, growP]; grind)
      refine v_em 3 (fun hs30_2 => ?_) (fun hs30_2 => ?_)
      · refine v_tin hC dX0_growing_30 (by decide) (by decide) rfl (t := 62) rfl ?_
        refine v_iconst hC (v := 0) rfl dX0_growing_62 (q := 63) rfl ?_
        refine hR _ _ _ _ ?_ dX0_growing_63
        refine ⟨?_, rfl⟩
        first | (simp [growF, growB, growP, *]; done) | (simp only [growF, growB, growP]; grind)
      refine v_em 4 (fun hs30_3 => ?_) (fun hs30_3 => ?_)
      · refine v_tin hC dX0_growing_30 (by decide) (by decide) rfl (t := 64) rfl ?_
        refine v_iconst hC (v := 2) rfl dX0_growing_64 (q := 65) rfl ?_
        refine v_iload_n hC rfl dX0_growing_65 (q := 66) rfl ?_
        refine v_imul hC dX0_growing_66 (q := 67) rfl ?_
        refine hR _ _ _ _ ?_ dX0_growing_67
        refine ⟨?_, rfl⟩
        first | (simp [growF, growB, growP, *]; done) | (simp only [growF, growB, growP]; grind)
      refine v_tout hC dX0_growing_30 (sw_out_1_4 hs30_0 hs30_1 hs30_2 hs30_3) (t := 68) rfl ?_
      refine v_iload_n hC rfl dX0_growing_68 (q := 69) rfl ?_
      refine hR _ _ _ _ ?_ dX0_growing_69
      refine ⟨?_, rfl⟩
      first | (simp [growF, growB, growP, *]; done) | (simp only [growF, growB, growP]; grind)
