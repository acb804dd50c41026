/-! ===== Quay b at 1 + 11 b: day d, count c, seenBy s, people nu, vv ===== -/
def quaV (X : Gx) (b : Nat) (d c : Int32) : va_E := .inr (1, [.int d, .int c, .ref (ga X (2 + 11 * b)), .ref (ga X (3 + 11 * b))])
def qH (X : Gx) (f : Hp) (b : Nat) (d c : Int32) (s nu : Nat → Int32) (vv : Nat → Nat → Int32) : Hp := fun x =>
  if x = 1 + 11 * b then quaV X b d c else if x = 2 + 11 * b then pplC X b else if x = 3 + 11 * b then mrow X 8 s else if 4 + 11 * b ≤ x ∧ x < 12 + 11 * b then oneV (nu (x - (4 + 11 * b))) (vv (x - (4 + 11 * b))) else f x
section QH
variable {X : Gx} {f : Hp} {b : Nat} {d c : Int32} {s nu : Nat → Int32} {vv : Nat → Nat → Int32}
theorem qH_q : qH X f b d c s nu vv (1 + 11 * b) = .inr (1, [.int d, .int c, .ref (ga X (2 + 11 * b)), .ref (ga X (3 + 11 * b))]) := by
  unfold qH; rw [if_pos rfl]; rfl
theorem qH_p : qH X f b d c s nu vv (2 + 11 * b) = .inl (gc X 2, 8, .inr (.inr (.inr (.inr (fun j => some (ga X (4 + 11 * b + j))))))) := by
  unfold qH; rw [if_neg (by omega), if_pos rfl]; rfl
theorem qH_s : qH X f b d c s nu vv (3 + 11 * b) = .inl (gc X 0, 8, .inl s) := by
  unfold qH; rw [if_neg (by omega), if_neg (by omega), if_pos rfl]; rfl
theorem qH_o {k : Nat} (hk : k < 8) : qH X f b d c s nu vv (4 + 11 * b + k) = oneV (nu k) (vv k) := by
  unfold qH
  rw [if_neg (by omega), if_neg (by omega), if_neg (by omega), if_pos (by omega), show 4 + 11 * b + k - (4 + 11 * b) = k by omega]
theorem qH_oo {k : Nat} (hk : k < 8) : qH X f b d c s nu vv (4 + 11 * b + k) = .inr (0, [.int (nu k), .int (vv k 0), .int (vv k 1), .int (vv k 2), .int (vv k 3), .int (vv k 4), .int (vv k 5), .int (vv k 6)]) := qH_o hk
theorem qH_set {k : Nat} (hk : k < 8) {x : Int32} {w : Nat → Int32} : va_up (qH X f b d c s nu vv) (4 + 11 * b + k) (oneV x w) = qH X f b d c s (upd nu k x) (va_up vv k w) := by
  funext y
  by_cases h : y = 4 + 11 * b + k
  · subst h
    rw [va_up_self, qH_o hk]
    simp [upd, va_up]
  · rw [va_up_ne _ _ h]
    unfold qH
    by_cases h2 : 4 + 11 * b ≤ y ∧ y < 12 + 11 * b
    · rw [if_neg (by omega), if_neg (by omega), if_neg (by omega), if_pos h2, if_neg (by omega), if_neg (by omega), if_neg (by omega), if_pos h2]
      simp only [upd, va_up]
      rw [if_neg (by omega), if_neg (by omega)]
    · rw [if_neg h2, if_neg h2]
theorem qH_day (x : Int32) : va_up (qH X f b d c s nu vv) (1 + 11 * b) (.inr (1, ([.int d, .int c, .ref (ga X (2 + 11 * b)), .ref (ga X (3 + 11 * b))] : List Value).set 0 (.int x))) = qH X f b x c s nu vv := by
  funext y
  by_cases h : y = 1 + 11 * b
  · subst h; rw [va_up_self, qH_q]; rfl
  · rw [va_up_ne _ _ h]; unfold qH; rw [if_neg h, if_neg h]
theorem qH_cnt (x : Int32) : va_up (qH X f b d c s nu vv) (1 + 11 * b) (.inr (1, ([.int d, .int c, .ref (ga X (2 + 11 * b)), .ref (ga X (3 + 11 * b))] : List Value).set 1 (.int x))) = qH X f b d x s nu vv := by
  funext y
  by_cases h : y = 1 + 11 * b
  · subst h; rw [va_up_self, qH_q]; rfl
  · rw [va_up_ne _ _ h]; unfold qH; rw [if_neg h, if_neg h]
theorem qH_sb (g : Nat → Int32) : va_up (qH X f b d c s nu vv) (3 + 11 * b) (.inl (gc X 0, 8, .inl g)) = qH X f b d c g nu vv := by
  funext y
  by_cases h : y = 3 + 11 * b
  · subst h; rw [va_up_self, qH_s]
  · rw [va_up_ne _ _ h]
    unfold qH
    rw [if_neg h, if_neg h]
theorem qH_out {y : Nat} (h : y < 1 + 11 * b ∨ 12 + 11 * b ≤ y) : qH X f b d c s nu vv y = f y := by
  unfold qH
  rw [if_neg (by omega), if_neg (by omega), if_neg (by omega), if_neg (by omega)]
end QH
theorem ix8 : ∀ j : Fin 8, ¬ (nI j.val < 0 ∨ 8 ≤ (nI j.val).toNatClampNeg) := by decide +kernel
theorem ix8' {j : Nat} (h : j < 8) : vp_in (nI j) 8 := ix8 ⟨j, h⟩
theorem one_self {f : Hp} {q : Nat} {k : Int32} {v : Nat → Int32} (hf : f q = oneV k v) : va_up f q (oneV k v) = f := by rw [← hf, up_id]
theorem c_X0_sharpnessAt_F {l : Launch} {X : Gx} {f : Hp} {q : Nat} (hq : q < 56) {k : Int32} {v : Nat → Int32} (hf : f q = oneV k v) (hv : okV v) {o : Int32} : Ci l X yX0_sharpnessAt cX0_sharpnessAt 5 (some .int) (rmk 1 21) [.ref (ga X q), .int o] f (fun z g => z = lookF k v o ∧ g = f) := by
  have h := c_X0_sharpnessAt (l := l) (X := X) (f := f) hq (k := k) (v := v) hv (o := o)
  rw [one_self hf] at h
  exact h
theorem c_X0_told_F {l : Launch} {X : Gx} {f : Hp} {q : Nat} (hq : q < 56) {k : Int32} {v : Nat → Int32} (hf : f q = oneV k v) (hv : okV v) {w : Int32} : Ci l X yX0_told cX0_told 2 (some .int) (rmk 3 65) [.ref (ga X q), .int w] f (fun z g => z = tolF k v w ∧ g = f) := by
  have h := c_X0_told (l := l) (X := X) (f := f) hq (k := k) (v := v) hv (w := w)
  rw [one_self hf] at h
  exact h
theorem c_X0_put_F {l : Launch} {X : Gx} {f : Hp} {q : Nat} (hq : q < 56) {k : Int32} {v : Nat → Int32} (hf : f q = oneV k v) {w x : Int32} (hw : 1 ≤ w ∧ w ≤ 6) : Cv l X yX0_put cX0_put 3 (none) (rmk 0 0) [.ref (ga X q), .int w, .int x] f (fun g => g = va_up f q (oneV k (upd v w.toNatClampNeg x))) := by
  have h := c_X0_put (l := l) (X := X) (f := f) hq (k := k) (v := v) (x := x) hw
  rw [one_self hf] at h
  exact h
theorem c_X0_haveGround_F {l : Launch} {X : Gx} {f : Hp} {q : Nat} (hq : q < 56) {k : Int32} {v : Nat → Int32} (hf : f q = oneV k v) (hv : okV v) : Cv l X yX0_haveGround cX0_haveGround 1 (none) (rmk 2 43) [.ref (ga X q)] f (fun g => g = va_up f q (oneV k (grdV v))) := by
  have h := c_X0_haveGround (l := l) (X := X) (f := f) hq (k := k) (v := v) hv
  rw [one_self hf] at h
  exact h
theorem c_X0_begin_F {l : Launch} {X : Gx} {f : Hp} {q : Nat} (hq : q < 56) {k : Int32} {v : Nat → Int32} (hf : f q = oneV k v) {nb kd : Int32} : Cv l X yX0_begin cX0_begin 3 (none) (rmk 0 0) [.ref (ga X q), .int nb, .int kd] f (fun g => g = va_up f q (oneV nb (newV kd 20 (-1)))) := by
  have h := c_X0_begin (l := l) (X := X) (f := f) hq (k := k) (v := v) (nb := nb) (kd := kd)
  rw [one_self hf] at h
  exact h
theorem c_X0_letDayGo_F {l : Launch} {X : Gx} {f : Hp} {q : Nat} (hq : q < 56) {k : Int32} {v : Nat → Int32} (hf : f q = oneV k v) (hv : okV v) : Cv l X yX0_letDayGo cX0_letDayGo 3 (none) (rmk 3 65) [.ref (ga X q)] f (fun g => g = va_up f q (oneV k (dayF k v))) := by
  have h := c_X0_letDayGo (l := l) (X := X) (f := f) hq (k := k) (v := v) hv
  rw [one_self hf] at h
  exact h
theorem c_X0_letDaysGo_F {l : Launch} {X : Gx} {f : Hp} {q : Nat} (hq : q < 56) {k : Int32} {v : Nat → Int32} (hf : f q = oneV k v) (hv : okV v) {n : Nat} (hn : n < 2147483648) : Cv l X yX0_letDaysGo cX0_letDaysGo 3 (none) (rmk 4 87) [.ref (ga X q), .int (nI n)] f (fun g => g = va_up f q (oneV k (itD k v n))) := by
  have h := c_X0_letDaysGo (l := l) (X := X) (f := f) hq (k := k) (v := v) hv hn
  rw [one_self hf] at h
  exact h
theorem c_X0_takePairOf_F {l : Launch} {X : Gx} {f : Hp} {q : Nat} (hq : q < 56) {k : Int32} {v : Nat → Int32} (hf : f q = oneV k v) {q2 : Nat} (hq2 : q2 < 56) {k2 : Int32} {v2 : Nat → Int32} (hne : q2 ≠ q) (hf2 : f q2 = oneV k2 v2) : Cv l X yX0_takePairOf cX0_takePairOf 2 (none) (rmk 0 0) [.ref (ga X q), .ref (ga X q2)] f (fun g => g = va_up f q (oneV k (vsw v v2))) := by
  have h := c_X0_takePairOf (l := l) (X := X) (f := f) hq (k := k) (v := v) hq2 hne hf2
  rw [one_self hf] at h
  exact h
theorem c_X0_become_F {l : Launch} {X : Gx} {f : Hp} {q : Nat} (hq : q < 56) {k : Int32} {v : Nat → Int32} (hf : f q = oneV k v) {q2 : Nat} (hq2 : q2 < 56) {k2 : Int32} {v2 : Nat → Int32} (hne : q2 ≠ q) (hf2 : f q2 = oneV k2 v2) : Cv l X yX0_become cX0_become 2 (none) (rmk 1 21) [.ref (ga X q), .ref (ga X q2)] f (fun g => g = va_up f q (oneV k2 v2)) := by
  have h := c_X0_become (l := l) (X := X) (f := f) hq (k := k) (v := v) hq2 hne hf2
  rw [one_self hf] at h
  exact h
set_option maxHeartbeats 4000000 in
set_option maxRecDepth 100000 in
theorem c_X1_grudges {l : Launch} {X : Gx} {f : Hp} {b : Nat} (hb : b < 3) {d cc_ : Int32} {s nu : Nat → Int32} {vv : Nat → Nat → Int32} {n : Nat} (hN : cc_ = nI n) (h8 : n ≤ 8)  : Ci l X yX1_grudges cX1_grudges 3 (some .int) (rmk 0 0) [.ref (ga X (1 + 11 * b))] (qH X f b d cc_ s nu vv) (fun z g => z = sumF vv 1 n ∧ g = qH X f b d cc_ s nu vv) := by
  refine ct_i (own := RX1) (lv := [some (.ref (ga X (1 + 11 * b))), none, none]) (by decide) rfl (Nat.le_of_ble_eq_true rfl) (Nat.le_of_ble_eq_true rfl) rfl (fun C hC hR => ?_)
  have loop : ∀ j, j ≤ n → V l X (rmk 0 0) C (qH X f b d cc_ s nu vv) 4 [some (.ref (ga X (1 + 11 * b))), some (.int (sumF vv 1 j)), some (.int (nI j))] [] := by
    refine v_up n ?_ ?_
    · refine v_iload_n hC rfl dX1_grudges_4 (q := 5) rfl ?_
      refine v_aload_n hC rfl dX1_grudges_5 (q := 6) rfl ?_
      refine v_get hC fl_X1_15 (k := 1 + 11 * b) (by omega) qH_q rfl dX1_grudges_6 (q := 9) rfl ?_
      refine v_icmp_ge hC dX1_grudges_9 (t := 30) rfl (q := 12) rfl (fun _ => ?_) (fun h => absurd (by rw [hN]; exact Int32.le_refl _) h)
      refine v_iload_n hC rfl dX1_grudges_30 (q := 31) rfl ?_
      refine hR _ _ _ _ ?_ dX1_grudges_31
      exact ⟨rfl, rfl⟩
    · intro j hj ih
      refine v_iload_n hC rfl dX1_grudges_4 (q := 5) rfl ?_
      refine v_aload_n hC rfl dX1_grudges_5 (q := 6) rfl ?_
      refine v_get hC fl_X1_15 (k := 1 + 11 * b) (by omega) qH_q rfl dX1_grudges_6 (q := 9) rfl ?_
      refine v_icmp_ge hC dX1_grudges_9 (t := 30) rfl (q := 12) rfl (fun h => absurd h (by rw [hN]; exact nI_ge hj (by omega))) (fun _ => ?_)
      refine v_iload_n hC rfl dX1_grudges_12 (q := 13) rfl ?_
      refine v_aload_n hC rfl dX1_grudges_13 (q := 14) rfl ?_
      refine v_get hC fl_X1_20 (k := 1 + 11 * b) (by omega) qH_q rfl dX1_grudges_14 (q := 17) rfl ?_
      refine v_iload_n hC rfl dX1_grudges_17 (q := 18) rfl ?_
      refine v_aald hC 2 (k := 2 + 11 * b) (by omega) qH_p rfl (ix8' (by omega)) (j := j) (nI_clamp (by omega)) rfl dX1_grudges_18 (q := 19) rfl ?_
      refine v_getN hC nl_X1_40 (k := 4 + 11 * b + j) (by omega) (qH_oo (by omega)) rfl dX1_grudges_19 (q := 22) rfl ?_
      refine v_iadd hC dX1_grudges_22 (q := 23) rfl ?_
      refine v_istore_1 hC rfl dX1_grudges_23 (q := 24) rfl ?_
      refine v_iinc_2 hC (v := _ + 1) rfl rfl dX1_grudges_24 (q := 27) rfl ?_
      refine v_goto hC dX1_grudges_27 (t := 4) rfl ?_
      refine v_same rfl ?_ rfl ih
      simp [nI_1, sumF]
  refine v_iconst hC (v := 0) rfl dX1_grudges_0 (q := 1) rfl ?_
  refine v_istore_1 hC rfl dX1_grudges_1 (q := 2) rfl ?_
  refine v_iconst hC (v := 0) rfl dX1_grudges_2 (q := 3) rfl ?_
  refine v_istore_2 hC rfl dX1_grudges_3 (q := 4) rfl ?_
  exact loop 0 (Nat.zero_le _)

set_option maxHeartbeats 4000000 in
set_option maxRecDepth 100000 in
theorem c_X1_wornTogether {l : Launch} {X : Gx} {f : Hp} {b : Nat} (hb : b < 3) {d cc_ : Int32} {s nu : Nat → Int32} {vv : Nat → Nat → Int32} {n : Nat} (hN : cc_ = nI n) (h8 : n ≤ 8)  : Ci l X yX1_wornTogether cX1_wornTogether 3 (some .int) (rmk 0 0) [.ref (ga X (1 + 11 * b))] (qH X f b d cc_ s nu vv) (fun z g => z = sumF vv 6 n ∧ g = qH X f b d cc_ s nu vv) := by
  refine ct_i (own := RX1) (lv := [some (.ref (ga X (1 + 11 * b))), none, none]) (by decide) rfl (Nat.le_of_ble_eq_true rfl) (Nat.le_of_ble_eq_true rfl) rfl (fun C hC hR => ?_)
  have loop : ∀ j, j ≤ n → V l X (rmk 0 0) C (qH X f b d cc_ s nu vv) 4 [some (.ref (ga X (1 + 11 * b))), some (.int (sumF vv 6 j)), some (.int (nI j))] [] := by
    refine v_up n ?_ ?_
    · refine v_iload_n hC rfl dX1_wornTogether_4 (q := 5) rfl ?_
      refine v_aload_n hC rfl dX1_wornTogether_5 (q := 6) rfl ?_
      refine v_get hC fl_X1_15 (k := 1 + 11 * b) (by omega) qH_q rfl dX1_wornTogether_6 (q := 9) rfl ?_
      refine v_icmp_ge hC dX1_wornTogether_9 (t := 30) rfl (q := 12) rfl (fun _ => ?_) (fun h => absurd (by rw [hN]; exact Int32.le_refl _) h)
      refine v_iload_n hC rfl dX1_wornTogether_30 (q := 31) rfl ?_
      refine hR _ _ _ _ ?_ dX1_wornTogether_31
      exact ⟨rfl, rfl⟩
    · intro j hj ih
      refine v_iload_n hC rfl dX1_wornTogether_4 (q := 5) rfl ?_
      refine v_aload_n hC rfl dX1_wornTogether_5 (q := 6) rfl ?_
      refine v_get hC fl_X1_15 (k := 1 + 11 * b) (by omega) qH_q rfl dX1_wornTogether_6 (q := 9) rfl ?_
      refine v_icmp_ge hC dX1_wornTogether_9 (t := 30) rfl (q := 12) rfl (fun h => absurd h (by rw [hN]; exact nI_ge hj (by omega))) (fun _ => ?_)
      refine v_iload_n hC rfl dX1_wornTogether_12 (q := 13) rfl ?_
      refine v_aload_n hC rfl dX1_wornTogether_13 (q := 14) rfl ?_
      refine v_get hC fl_X1_20 (k := 1 + 11 * b) (by omega) qH_q rfl dX1_wornTogether_14 (q := 17) rfl ?_
      refine v_iload_n hC rfl dX1_wornTogether_17 (q := 18) rfl ?_
      refine v_aald hC 2 (k := 2 + 11 * b) (by omega) qH_p rfl (ix8' (by omega)) (j := j) (nI_clamp (by omega)) rfl dX1_wornTogether_18 (q := 19) rfl ?_
      refine v_getN hC nl_X1_43 (k := 4 + 11 * b + j) (by omega) (qH_oo (by omega)) rfl dX1_wornTogether_19 (q := 22) rfl ?_
      refine v_iadd hC dX1_wornTogether_22 (q := 23) rfl ?_
      refine v_istore_1 hC rfl dX1_wornTogether_23 (q := 24) rfl ?_
      refine v_iinc_2 hC (v := _ + 1) rfl rfl dX1_wornTogether_24 (q := 27) rfl ?_
      refine v_goto hC dX1_wornTogether_27 (t := 4) rfl ?_
      refine v_same rfl ?_ rfl ih
      simp [nI_1, sumF]
  refine v_iconst hC (v := 0) rfl dX1_wornTogether_0 (q := 1) rfl ?_
  refine v_istore_1 hC rfl dX1_wornTogether_1 (q := 2) rfl ?_
  refine v_iconst hC (v := 0) rfl dX1_wornTogether_2 (q := 3) rfl ?_
  refine v_istore_2 hC rfl dX1_wornTogether_3 (q := 4) rfl ?_
  exact loop 0 (Nat.zero_le _)

set_option maxHeartbeats 4000000 in
set_option maxRecDepth 100000 in
theorem c_X1_pairsThatShowNobody {l : Launch} {X : Gx} {f : Hp} {b : Nat} (hb : b < 3) {d cc_ : Int32} {s nu : Nat → Int32} {vv : Nat → Nat → Int32} {n : Nat} (hN : cc_ = nI n) (h8 : n ≤ 8)  : Ci l X yX1_pairsThatShowNobody cX1_pairsThatShowNobody 3 (some .int) (rmk 0 0) [.ref (ga X (1 + 11 * b))] (qH X f b d cc_ s nu vv) (fun z g => z = nI (cntN (fun p => decide (vv p 4 = -1)) n) ∧ g = qH X f b d cc_ s nu vv) := by
  refine ct_i (own := RX1) (lv := [some (.ref (ga X (1 + 11 * b))), none, none]) (by decide) rfl (Nat.le_of_ble_eq_true rfl) (Nat.le_of_ble_eq_true rfl) rfl (fun C hC hR => ?_)
  have loop : ∀ j, j ≤ n → V l X (rmk 0 0) C (qH X f b d cc_ s nu vv) 4 [some (.ref (ga X (1 + 11 * b))), some (.int (nI (cntN (fun p => decide (vv p 4 = -1)) j))), some (.int (nI j))] [] := by
    refine v_up n ?_ ?_
    · refine v_iload_n hC rfl dX1_pairsThatShowNobody_4 (q := 5) rfl ?_
      refine v_aload_n hC rfl dX1_pairsThatShowNobody_5 (q := 6) rfl ?_
      refine v_get hC fl_X1_15 (k := 1 + 11 * b) (by omega) qH_q rfl dX1_pairsThatShowNobody_6 (q := 9) rfl ?_
      refine v_icmp_ge hC dX1_pairsThatShowNobody_9 (t := 39) rfl (q := 12) rfl (fun _ => ?_) (fun h => absurd (by rw [hN]; exact Int32.le_refl _) h)
      refine v_iload_n hC rfl dX1_pairsThatShowNobody_39 (q := 40) rfl ?_
      refine hR _ _ _ _ ?_ dX1_pairsThatShowNobody_40
      exact ⟨rfl, rfl⟩
    · intro j hj ih
      refine v_iload_n hC rfl dX1_pairsThatShowNobody_4 (q := 5) rfl ?_
      refine v_aload_n hC rfl dX1_pairsThatShowNobody_5 (q := 6) rfl ?_
      refine v_get hC fl_X1_15 (k := 1 + 11 * b) (by omega) qH_q rfl dX1_pairsThatShowNobody_6 (q := 9) rfl ?_
      refine v_icmp_ge hC dX1_pairsThatShowNobody_9 (t := 39) rfl (q := 12) rfl (fun h => absurd h (by rw [hN]; exact nI_ge hj (by omega))) (fun _ => ?_)
      refine v_iload_n hC rfl dX1_pairsThatShowNobody_12 (q := 13) rfl ?_
      refine v_aload_n hC rfl dX1_pairsThatShowNobody_13 (q := 14) rfl ?_
      refine v_get hC fl_X1_20 (k := 1 + 11 * b) (by omega) qH_q rfl dX1_pairsThatShowNobody_14 (q := 17) rfl ?_
      refine v_iload_n hC rfl dX1_pairsThatShowNobody_17 (q := 18) rfl ?_
      refine v_aald hC 2 (k := 2 + 11 * b) (by omega) qH_p rfl (ix8' (by omega)) (j := j) (nI_clamp (by omega)) rfl dX1_pairsThatShowNobody_18 (q := 19) rfl ?_
      refine v_getN hC nl_X1_46 (k := 4 + 11 * b + j) (by omega) (qH_oo (by omega)) rfl dX1_pairsThatShowNobody_19 (q := 22) rfl ?_
      refine v_iconst hC (v := (-1)) rfl dX1_pairsThatShowNobody_22 (q := 23) rfl ?_
      refine v_icmp_ne hC dX1_pairsThatShowNobody_23 (t := 30) rfl (q := 26) rfl (fun h23 => ?_) (fun h23 => ?_)
      · refine v_iconst hC (v := 0) rfl dX1_pairsThatShowNobody_30 (q := 31) rfl ?_
        refine v_iadd hC dX1_pairsThatShowNobody_31 (q := 32) rfl ?_
        refine v_istore_1 hC rfl dX1_pairsThatShowNobody_32 (q := 33) rfl ?_
        refine v_iinc_2 hC (v := _ + 1) rfl rfl dX1_pairsThatShowNobody_33 (q := 36) rfl ?_
        refine v_goto hC dX1_pairsThatShowNobody_36 (t := 4) rfl ?_
        refine v_same rfl ?_ rfl ih
        simp [nI_1, cntN, h23]
      · refine v_iconst hC (v := 1) rfl dX1_pairsThatShowNobody_26 (q := 27) rfl ?_
        refine v_goto hC dX1_pairsThatShowNobody_27 (t := 31) rfl ?_
        refine v_iadd hC dX1_pairsThatShowNobody_31 (q := 32) rfl ?_
        refine v_istore_1 hC rfl dX1_pairsThatShowNobody_32 (q := 33) rfl ?_
        refine v_iinc_2 hC (v := _ + 1) rfl rfl dX1_pairsThatShowNobody_33 (q := 36) rfl ?_
        refine v_goto hC dX1_pairsThatShowNobody_36 (t := 4) rfl ?_
        refine v_same rfl ?_ rfl ih
        simp [nI_1, cntN, h23]
  refine v_iconst hC (v := 0) rfl dX1_pairsThatShowNobody_0 (q := 1) rfl ?_
  refine v_istore_1 hC rfl dX1_pairsThatShowNobody_1 (q := 2) rfl ?_
  refine v_iconst hC (v := 0) rfl dX1_pairsThatShowNobody_2 (q := 3) rfl ?_
  refine v_istore_2 hC rfl dX1_pairsThatShowNobody_3 (q := 4) rfl ?_
  exact loop 0 (Nat.zero_le _)

set_option maxHeartbeats 4000000 in
set_option maxRecDepth 100000 in
theorem c_X1_thoseWithoutGrudge {l : Launch} {X : Gx} {f : Hp} {b : Nat} (hb : b < 3) {d cc_ : Int32} {s nu : Nat → Int32} {vv : Nat → Nat → Int32} {n : Nat} (hN : cc_ = nI n) (h8 : n ≤ 8)  : Ci l X yX1_thoseWithoutGrudge cX1_thoseWithoutGrudge 3 (some .int) (rmk 0 0) [.ref (ga X (1 + 11 * b))] (qH X f b d cc_ s nu vv) (fun z g => z = withF vv 1 0 n ∧ g = qH X f b d cc_ s nu vv) := by
  refine ct_i (own := RX1) (lv := [some (.ref (ga X (1 + 11 * b))), none, none]) (by decide) rfl (Nat.le_of_ble_eq_true rfl) (Nat.le_of_ble_eq_true rfl) rfl (fun C hC hR => ?_)
  have loop : ∀ j, j ≤ n → V l X (rmk 0 0) C (qH X f b d cc_ s nu vv) 4 [some (.ref (ga X (1 + 11 * b))), some (.int (withF vv 1 0 j)), some (.int (nI j))] [] := by
    refine v_up n ?_ ?_
    · refine v_iload_n hC rfl dX1_thoseWithoutGrudge_4 (q := 5) rfl ?_
      refine v_aload_n hC rfl dX1_thoseWithoutGrudge_5 (q := 6) rfl ?_
      refine v_get hC fl_X1_15 (k := 1 + 11 * b) (by omega) qH_q rfl dX1_thoseWithoutGrudge_6 (q := 9) rfl ?_
      refine v_icmp_ge hC dX1_thoseWithoutGrudge_9 (t := 40) rfl (q := 12) rfl (fun _ => ?_) (fun h => absurd (by rw [hN]; exact Int32.le_refl _) h)
      refine v_iload_n hC rfl dX1_thoseWithoutGrudge_40 (q := 41) rfl ?_
      refine hR _ _ _ _ ?_ dX1_thoseWithoutGrudge_41
      exact ⟨rfl, rfl⟩
    · intro j hj ih
      refine v_iload_n hC rfl dX1_thoseWithoutGrudge_4 (q := 5) rfl ?_
      refine v_aload_n hC rfl dX1_thoseWithoutGrudge_5 (q := 6) rfl ?_
      refine v_get hC fl_X1_15 (k := 1 + 11 * b) (by omega) qH_q rfl dX1_thoseWithoutGrudge_6 (q := 9) rfl ?_
      refine v_icmp_ge hC dX1_thoseWithoutGrudge_9 (t := 40) rfl (q := 12) rfl (fun h => absurd h (by rw [hN]; exact nI_ge hj (by omega))) (fun _ => ?_)
      refine v_iload_n hC rfl dX1_thoseWithoutGrudge_12 (q := 13) rfl ?_
      refine v_aload_n hC rfl dX1_thoseWithoutGrudge_13 (q := 14) rfl ?_
      refine v_get hC fl_X1_20 (k := 1 + 11 * b) (by omega) qH_q rfl dX1_thoseWithoutGrudge_14 (q := 17) rfl ?_
      refine v_iload_n hC rfl dX1_thoseWithoutGrudge_17 (q := 18) rfl ?_
      refine v_aald hC 2 (k := 2 + 11 * b) (by omega) qH_p rfl (ix8' (by omega)) (j := j) (nI_clamp (by omega)) rfl dX1_thoseWithoutGrudge_18 (q := 19) rfl ?_
      refine v_getN hC nl_X1_40 (k := 4 + 11 * b + j) (by omega) (qH_oo (by omega)) rfl dX1_thoseWithoutGrudge_19 (q := 22) rfl ?_
      refine v_if_ne hC dX1_thoseWithoutGrudge_22 (t := 31) rfl (q := 25) rfl (fun h22 => ?_) (fun h22 => ?_)
      · refine v_iconst hC (v := 0) rfl dX1_thoseWithoutGrudge_31 (q := 32) rfl ?_
        refine v_ior hC dX1_thoseWithoutGrudge_32 (q := 33) rfl ?_
        refine v_istore_1 hC rfl dX1_thoseWithoutGrudge_33 (q := 34) rfl ?_
        refine v_iinc_2 hC (v := _ + 1) rfl rfl dX1_thoseWithoutGrudge_34 (q := 37) rfl ?_
        refine v_goto hC dX1_thoseWithoutGrudge_37 (t := 4) rfl ?_
        refine v_same rfl ?_ rfl ih
        simp [nI_1, withF, bitI, h22]
      · refine v_iconst hC (v := 1) rfl dX1_thoseWithoutGrudge_25 (q := 26) rfl ?_
        refine v_iload_n hC rfl dX1_thoseWithoutGrudge_26 (q := 27) rfl ?_
        refine v_ishl hC dX1_thoseWithoutGrudge_27 (q := 28) rfl ?_
        refine v_goto hC dX1_thoseWithoutGrudge_28 (t := 32) rfl ?_
        refine v_ior hC dX1_thoseWithoutGrudge_32 (q := 33) rfl ?_
        refine v_istore_1 hC rfl dX1_thoseWithoutGrudge_33 (q := 34) rfl ?_
        refine v_iinc_2 hC (v := _ + 1) rfl rfl dX1_thoseWithoutGrudge_34 (q := 37) rfl ?_
        refine v_goto hC dX1_thoseWithoutGrudge_37 (t := 4) rfl ?_
        refine v_same rfl ?_ rfl ih
        simp [nI_1, withF, bitI, h22]
  refine v_iconst hC (v := 0) rfl dX1_thoseWithoutGrudge_0 (q := 1) rfl ?_
  refine v_istore_1 hC rfl dX1_thoseWithoutGrudge_1 (q := 2) rfl ?_
  refine v_iconst hC (v := 0) rfl dX1_thoseWithoutGrudge_2 (q := 3) rfl ?_
  refine v_istore_2 hC rfl dX1_thoseWithoutGrudge_3 (q := 4) rfl ?_
  exact loop 0 (Nat.zero_le _)

theorem up_bit {x : Int32} {j : Nat} (h : x = 0 ∨ x = 1) : x <<< (nI j &&& 31) = if x = 1 then bitI j else 0 := by
  rcases h with rfl | rfl
  · rw [if_neg (by decide)]
    apply Int32.toBitVec_inj.mp
    simp
  · rw [if_pos rfl, bitI]
set_option maxHeartbeats 4000000 in
set_option maxRecDepth 100000 in
theorem c_X1_thoseUp {l : Launch} {X : Gx} {f : Hp} {b : Nat} (hb : b < 3) {d cc_ : Int32} {s nu : Nat → Int32} {vv : Nat → Nat → Int32} {n : Nat} (hN : cc_ = nI n) (h8 : n ≤ 8) (hu : ∀ p, p < n → (vv p 3 = 0 ∨ vv p 3 = 1)) : Ci l X yX1_thoseUp cX1_thoseUp 3 (some .int) (rmk 0 0) [.ref (ga X (1 + 11 * b))] (qH X f b d cc_ s nu vv) (fun z g => z = withF vv 3 1 n ∧ g = qH X f b d cc_ s nu vv) := by
  refine ct_i (own := RX1) (lv := [some (.ref (ga X (1 + 11 * b))), none, none]) (by decide) rfl (Nat.le_of_ble_eq_true rfl) (Nat.le_of_ble_eq_true rfl) rfl (fun C hC hR => ?_)
  have loop : ∀ j, j ≤ n → V l X (rmk 0 0) C (qH X f b d cc_ s nu vv) 4 [some (.ref (ga X (1 + 11 * b))), some (.int (withF vv 3 1 j)), some (.int (nI j))] [] := by
    refine v_up n ?_ ?_
    · refine v_iload_n hC rfl dX1_thoseUp_4 (q := 5) rfl ?_
      refine v_aload_n hC rfl dX1_thoseUp_5 (q := 6) rfl ?_
      refine v_get hC fl_X1_15 (k := 1 + 11 * b) (by omega) qH_q rfl dX1_thoseUp_6 (q := 9) rfl ?_
      refine v_icmp_ge hC dX1_thoseUp_9 (t := 32) rfl (q := 12) rfl (fun _ => ?_) (fun h => absurd (by rw [hN]; exact Int32.le_refl _) h)
      refine v_iload_n hC rfl dX1_thoseUp_32 (q := 33) rfl ?_
      refine hR _ _ _ _ ?_ dX1_thoseUp_33
      exact ⟨rfl, rfl⟩
    · intro j hj ih
      refine v_iload_n hC rfl dX1_thoseUp_4 (q := 5) rfl ?_
      refine v_aload_n hC rfl dX1_thoseUp_5 (q := 6) rfl ?_
      refine v_get hC fl_X1_15 (k := 1 + 11 * b) (by omega) qH_q rfl dX1_thoseUp_6 (q := 9) rfl ?_
      refine v_icmp_ge hC dX1_thoseUp_9 (t := 32) rfl (q := 12) rfl (fun h => absurd h (by rw [hN]; exact nI_ge hj (by omega))) (fun _ => ?_)
      refine v_iload_n hC rfl dX1_thoseUp_12 (q := 13) rfl ?_
      refine v_aload_n hC rfl dX1_thoseUp_13 (q := 14) rfl ?_
      refine v_get hC fl_X1_20 (k := 1 + 11 * b) (by omega) qH_q rfl dX1_thoseUp_14 (q := 17) rfl ?_
      refine v_iload_n hC rfl dX1_thoseUp_17 (q := 18) rfl ?_
      refine v_aald hC 2 (k := 2 + 11 * b) (by omega) qH_p rfl (ix8' (by omega)) (j := j) (nI_clamp (by omega)) rfl dX1_thoseUp_18 (q := 19) rfl ?_
      refine v_getN hC nl_X1_49 (k := 4 + 11 * b + j) (by omega) (qH_oo (by omega)) rfl dX1_thoseUp_19 (q := 22) rfl ?_
      refine v_iload_n hC rfl dX1_thoseUp_22 (q := 23) rfl ?_
      refine v_ishl hC dX1_thoseUp_23 (q := 24) rfl ?_
      refine v_ior hC dX1_thoseUp_24 (q := 25) rfl ?_
      refine v_istore_1 hC rfl dX1_thoseUp_25 (q := 26) rfl ?_
      refine v_iinc_2 hC (v := _ + 1) rfl rfl dX1_thoseUp_26 (q := 29) rfl ?_
      refine v_goto hC dX1_thoseUp_29 (t := 4) rfl ?_
      refine v_same rfl ?_ rfl ih
      rw [up_bit (hu j hj)]
      simp [nI_1, withF]
  refine v_iconst hC (v := 0) rfl dX1_thoseUp_0 (q := 1) rfl ?_
  refine v_istore_1 hC rfl dX1_thoseUp_1 (q := 2) rfl ?_
  refine v_iconst hC (v := 0) rfl dX1_thoseUp_2 (q := 3) rfl ?_
  refine v_istore_2 hC rfl dX1_thoseUp_3 (q := 4) rfl ?_
  exact loop 0 (Nat.zero_le _)
