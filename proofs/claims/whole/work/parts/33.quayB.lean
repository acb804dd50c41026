set_option maxHeartbeats 4000000 in
set_option maxRecDepth 100000 in
theorem c_X1_isFull {l : Launch} {X : Gx} {f : Hp} {b : Nat} (hb : b < 3) {d cc_ : Int32} {s nu : Nat → Int32} {vv : Nat → Nat → Int32} {n : Nat} (hN : cc_ = nI n) (h8 : n ≤ 8) : Ci l X yX1_isFull cX1_isFull 1 (some .boolean) (rmk 0 0) [.ref (ga X (1 + 11 * b))] (qH X f b d cc_ s nu vv) (fun z g => (n = 8 ∧ z = 1 ∨ ¬ n = 8 ∧ z = 0) ∧ g = qH X f b d cc_ s nu vv) := by
  refine ct_z (own := RX1) (lv := [some (.ref (ga X (1 + 11 * b)))]) (by decide) rfl (Nat.le_of_ble_eq_true rfl) (Nat.le_of_ble_eq_true rfl) rfl (fun C hC hR => ?_)
  refine v_aload_n hC rfl dX1_isFull_0 (q := 1) rfl ?_
  refine v_get hC fl_X1_15 (k := 1 + 11 * b) (by omega) qH_q rfl dX1_isFull_1 (q := 4) rfl ?_
  refine v_bipush hC (v := 8) rfl dX1_isFull_4 (q := 6) rfl ?_
  refine v_icmp_lt hC dX1_isFull_6 (t := 13) rfl (q := 9) rfl (fun h6 => ?_) (fun h6 => ?_)
  · refine v_iconst hC (v := 0) rfl dX1_isFull_13 (q := 14) rfl ?_
    refine hR _ _ _ _ ?_ (by first | rfl | decide | assumption) dX1_isFull_14
    rw [hN] at h6
    exact ⟨Or.inr ⟨by have := (nI_ltI (a := n) (b := 8) (by omega) (by decide)).mp h6; omega, rfl⟩, rfl⟩
  · refine v_iconst hC (v := 1) rfl dX1_isFull_9 (q := 10) rfl ?_
    refine v_goto hC dX1_isFull_10 (t := 14) rfl ?_
    refine hR _ _ _ _ ?_ (by first | rfl | decide | assumption) dX1_isFull_14
    rw [hN] at h6
    exact ⟨Or.inl ⟨by have := (nI_leI (a := 8) (b := n) (by decide) (by omega)).mp (Int32.not_lt.mp h6); omega, rfl⟩, rfl⟩

set_option maxHeartbeats 4000000 in
set_option maxRecDepth 100000 in
theorem c_X1_all {l : Launch} {X : Gx} {f : Hp} {b : Nat} (hb : b < 3) {d cc_ : Int32} {s nu : Nat → Int32} {vv : Nat → Nat → Int32} {n : Nat} (hN : cc_ = nI n) (h8 : n ≤ 8)  : Ci l X yX1_all cX1_all 1 (some .int) (rmk 0 0) [.ref (ga X (1 + 11 * b))] (qH X f b d cc_ s nu vv) (fun z g => z = allI n ∧ g = qH X f b d cc_ s nu vv) := by
  refine ct_i (own := RX1) (lv := [some (.ref (ga X (1 + 11 * b)))]) (by decide) rfl (Nat.le_of_ble_eq_true rfl) (Nat.le_of_ble_eq_true rfl) rfl (fun C hC hR => ?_)
  refine v_iconst hC (v := 1) rfl dX1_all_0 (q := 1) rfl ?_
  refine v_aload_n hC rfl dX1_all_1 (q := 2) rfl ?_
  refine v_get hC fl_X1_15 (k := 1 + 11 * b) (by omega) qH_q rfl dX1_all_2 (q := 5) rfl ?_
  refine v_ishl hC dX1_all_5 (q := 6) rfl ?_
  refine v_iconst hC (v := 1) rfl dX1_all_6 (q := 7) rfl ?_
  refine v_isub hC dX1_all_7 (q := 8) rfl ?_
  refine hR _ _ _ _ ?_ dX1_all_8
  exact ⟨by rw [hN, allI], rfl⟩

set_option maxHeartbeats 4000000 in
set_option maxRecDepth 100000 in
theorem c_X1_othersAsSharpAs {l : Launch} {X : Gx} {f : Hp} {b : Nat} (hb : b < 3) {d cc_ : Int32} {s nu : Nat → Int32} {vv : Nat → Nat → Int32} {n : Nat} (hN : cc_ = nI n) (h8 : n ≤ 8) (hnu : ∀ p, p < n → nu p = nI p) (hok : ∀ p, p < n → okV (vv p)) {p : Nat} (hp : p < n) {v : Int32} : Ci l X yX1_othersAsSharpAs cX1_othersAsSharpAs 5 (some .int) (rmk 2 45) [.ref (ga X (1 + 11 * b)), .int (nI p), .int v] (qH X f b d cc_ s nu vv) (fun z g => z = seesF (nI p) (vv p) v n ∧ g = qH X f b d cc_ s nu vv) := by
  refine ct_i (own := RX1) (lv := [some (.ref (ga X (1 + 11 * b))), some (.int (nI p)), some (.int v), none, none]) (by decide) rfl (Nat.le_of_ble_eq_true rfl) (Nat.le_of_ble_eq_true rfl) rfl (fun C hC hR => ?_)
  have loop : ∀ j, j ≤ n → V l X (rmk 2 45) C (qH X f b d cc_ s nu vv) 5 [some (.ref (ga X (1 + 11 * b))), some (.int (nI p)), some (.int v), some (.int (seesF (nI p) (vv p) v j)), some (.int (nI j))] [] := by
    refine v_up n ?_ ?_
    · refine v_iload hC rfl dX1_othersAsSharpAs_5 (q := 7) rfl ?_
      refine v_aload_n hC rfl dX1_othersAsSharpAs_7 (q := 8) rfl ?_
      refine v_get hC fl_X1_15 (k := 1 + 11 * b) (by omega) qH_q rfl dX1_othersAsSharpAs_8 (q := 11) rfl ?_
      refine v_icmp_ge hC dX1_othersAsSharpAs_11 (t := 48) rfl (q := 14) rfl (fun _ => ?_) (fun h => absurd (by rw [hN]; exact Int32.le_refl _) h)
      refine v_iload_n hC rfl dX1_othersAsSharpAs_48 (q := 49) rfl ?_
      refine hR _ _ _ _ ?_ dX1_othersAsSharpAs_49
      exact ⟨rfl, rfl⟩
    · intro j hj ih
      refine v_iload hC rfl dX1_othersAsSharpAs_5 (q := 7) rfl ?_
      refine v_aload_n hC rfl dX1_othersAsSharpAs_7 (q := 8) rfl ?_
      refine v_get hC fl_X1_15 (k := 1 + 11 * b) (by omega) qH_q rfl dX1_othersAsSharpAs_8 (q := 11) rfl ?_
      refine v_icmp_ge hC dX1_othersAsSharpAs_11 (t := 48) rfl (q := 14) rfl (fun h => absurd h (by rw [hN]; exact nI_ge hj (by omega))) (fun _ => ?_)
      refine v_iload hC rfl dX1_othersAsSharpAs_14 (q := 16) rfl ?_
      refine v_iload_n hC rfl dX1_othersAsSharpAs_16 (q := 17) rfl ?_
      refine v_icmp_eq hC dX1_othersAsSharpAs_17 (t := 42) rfl (q := 20) rfl (fun h17 => ?_) (fun h17 => ?_)
      · refine v_iinc_4 hC (v := _ + 1) rfl rfl dX1_othersAsSharpAs_42 (q := 45) rfl ?_
        refine v_goto hC dX1_othersAsSharpAs_45 (t := 5) rfl ?_
        refine v_same rfl ?_ rfl ih
        rw [seesF, if_neg (fun z => z.1 h17)]
        simp [nI_1]
      · refine v_aload_n hC rfl dX1_othersAsSharpAs_20 (q := 21) rfl ?_
        refine v_get hC fl_X1_20 (k := 1 + 11 * b) (by omega) qH_q rfl dX1_othersAsSharpAs_21 (q := 24) rfl ?_
        refine v_iload_n hC rfl dX1_othersAsSharpAs_24 (q := 25) rfl ?_
        refine v_aald hC 2 (k := 2 + 11 * b) (by omega) qH_p rfl (ix8' (by omega)) (j := p) (nI_clamp (by omega)) rfl dX1_othersAsSharpAs_25 (q := 26) rfl ?_
        refine v_iload hC rfl dX1_othersAsSharpAs_26 (q := 28) rfl ?_
        refine v_Vi hC lkV_X1_52 (c_X0_sharpnessAt_F (q := 4 + 11 * b + p) (by omega) (qH_o (by omega)) (hok p hp)) rfl (by decide) (k := 4 + 11 * b + p) (by omega) (qH_oo (by omega)) rfl rfl (Nat.le_of_ble_eq_true rfl) dX1_othersAsSharpAs_28 (q := 31) rfl ?_
        rintro _ _ ⟨rfl, rfl⟩
        rw [hnu p hp]
        refine v_iload_n hC rfl dX1_othersAsSharpAs_31 (q := 32) rfl ?_
        refine v_icmp_lt hC dX1_othersAsSharpAs_32 (t := 42) rfl (q := 35) rfl (fun h32 => ?_) (fun h32 => ?_)
        · refine v_iinc_4 hC (v := _ + 1) rfl rfl dX1_othersAsSharpAs_42 (q := 45) rfl ?_
          refine v_goto hC dX1_othersAsSharpAs_45 (t := 5) rfl ?_
          refine v_same rfl ?_ rfl ih
          rw [seesF, if_neg (fun z => Int32.not_le.mpr h32 z.2)]
          simp [nI_1]
        · refine v_iload_n hC rfl dX1_othersAsSharpAs_35 (q := 36) rfl ?_
          refine v_iconst hC (v := 1) rfl dX1_othersAsSharpAs_36 (q := 37) rfl ?_
          refine v_iload hC rfl dX1_othersAsSharpAs_37 (q := 39) rfl ?_
          refine v_ishl hC dX1_othersAsSharpAs_39 (q := 40) rfl ?_
          refine v_ior hC dX1_othersAsSharpAs_40 (q := 41) rfl ?_
          refine v_istore_3 hC rfl dX1_othersAsSharpAs_41 (q := 42) rfl ?_
          refine v_iinc_4 hC (v := _ + 1) rfl rfl dX1_othersAsSharpAs_42 (q := 45) rfl ?_
          refine v_goto hC dX1_othersAsSharpAs_45 (t := 5) rfl ?_
          refine v_same rfl ?_ rfl ih
          rw [seesF, if_pos ⟨h17, Int32.not_lt.mp h32⟩]
          simp [nI_1, bitI]
  refine v_iconst hC (v := 0) rfl dX1_othersAsSharpAs_0 (q := 1) rfl ?_
  refine v_istore_3 hC rfl dX1_othersAsSharpAs_1 (q := 2) rfl ?_
  refine v_iconst hC (v := 0) rfl dX1_othersAsSharpAs_2 (q := 3) rfl ?_
  refine v_istore_4 hC rfl dX1_othersAsSharpAs_3 (q := 5) rfl ?_
  exact loop 0 (Nat.zero_le _)

set_option maxHeartbeats 4000000 in
set_option maxRecDepth 100000 in
theorem c_X1_thoseSeen {l : Launch} {X : Gx} {f : Hp} {b : Nat} (hb : b < 3) {d cc_ : Int32} {s nu : Nat → Int32} {vv : Nat → Nat → Int32} {n : Nat} (hN : cc_ = nI n) (h8 : n ≤ 8) (hnu : ∀ p, p < n → nu p = nI p) (hok : ∀ p, p < n → okV (vv p))  : Ci l X yX1_thoseSeen cX1_thoseSeen 3 (some .int) (rmk 3 69) [.ref (ga X (1 + 11 * b))] (qH X f b d cc_ s nu vv) (fun z g => z = seenF vv n n ∧ g = qH X f b d cc_ s nu vv) := by
  refine ct_i (own := RX1) (lv := [some (.ref (ga X (1 + 11 * b))), none, none]) (by decide) rfl (Nat.le_of_ble_eq_true rfl) (Nat.le_of_ble_eq_true rfl) rfl (fun C hC hR => ?_)
  have loop : ∀ j, j ≤ n → V l X (rmk 3 69) C (qH X f b d cc_ s nu vv) 4 [some (.ref (ga X (1 + 11 * b))), some (.int (seenF vv n j)), some (.int (nI j))] [] := by
    refine v_up n ?_ ?_
    · refine v_iload_n hC rfl dX1_thoseSeen_4 (q := 5) rfl ?_
      refine v_aload_n hC rfl dX1_thoseSeen_5 (q := 6) rfl ?_
      refine v_get hC fl_X1_15 (k := 1 + 11 * b) (by omega) qH_q rfl dX1_thoseSeen_6 (q := 9) rfl ?_
      refine v_icmp_ge hC dX1_thoseSeen_9 (t := 28) rfl (q := 12) rfl (fun _ => ?_) (fun h => absurd (by rw [hN]; exact Int32.le_refl _) h)
      refine v_iload_n hC rfl dX1_thoseSeen_28 (q := 29) rfl ?_
      refine hR _ _ _ _ ?_ dX1_thoseSeen_29
      exact ⟨rfl, rfl⟩
    · intro j hj ih
      refine v_iload_n hC rfl dX1_thoseSeen_4 (q := 5) rfl ?_
      refine v_aload_n hC rfl dX1_thoseSeen_5 (q := 6) rfl ?_
      refine v_get hC fl_X1_15 (k := 1 + 11 * b) (by omega) qH_q rfl dX1_thoseSeen_6 (q := 9) rfl ?_
      refine v_icmp_ge hC dX1_thoseSeen_9 (t := 28) rfl (q := 12) rfl (fun h => absurd h (by rw [hN]; exact nI_ge hj (by omega))) (fun _ => ?_)
      refine v_iload_n hC rfl dX1_thoseSeen_12 (q := 13) rfl ?_
      refine v_aload_n hC rfl dX1_thoseSeen_13 (q := 14) rfl ?_
      refine v_iload_n hC rfl dX1_thoseSeen_14 (q := 15) rfl ?_
      refine v_bipush hC (v := 30) rfl dX1_thoseSeen_15 (q := 17) rfl ?_
      refine v_Vi hC lkV_X1_56 (c_X1_othersAsSharpAs hb hN h8 hnu hok hj) rfl (by decide) (k := 1 + 11 * b) (by omega) qH_q rfl rfl (Nat.le_of_ble_eq_true rfl) dX1_thoseSeen_17 (q := 20) rfl ?_
      rintro _ _ ⟨rfl, rfl⟩
      refine v_ior hC dX1_thoseSeen_20 (q := 21) rfl ?_
      refine v_istore_1 hC rfl dX1_thoseSeen_21 (q := 22) rfl ?_
      refine v_iinc_2 hC (v := _ + 1) rfl rfl dX1_thoseSeen_22 (q := 25) rfl ?_
      refine v_goto hC dX1_thoseSeen_25 (t := 4) rfl ?_
      refine v_same rfl ?_ rfl ih
      simp [nI_1, seenF]
  refine v_iconst hC (v := 0) rfl dX1_thoseSeen_0 (q := 1) rfl ?_
  refine v_istore_1 hC rfl dX1_thoseSeen_1 (q := 2) rfl ?_
  refine v_iconst hC (v := 0) rfl dX1_thoseSeen_2 (q := 3) rfl ?_
  refine v_istore_2 hC rfl dX1_thoseSeen_3 (q := 4) rfl ?_
  exact loop 0 (Nat.zero_le _)

def ntR (vv : Nat → Nat → Int32) (n : Nat) (s : Nat → Int32) (j : Nat) : Nat → Int32 := fun k => if k < j then seesF (nI k) (vv k) 30 n else s k
theorem ntR_s {vv : Nat → Nat → Int32} {n : Nat} {s : Nat → Int32} {j : Nat} : upd (ntR vv n s j) j (seesF (nI j) (vv j) 30 n) = ntR vv n s (j + 1) := by
  funext k
  simp only [upd, ntR]
  by_cases h : k = j
  · subst h; simp
  · rw [if_neg h]
    by_cases h2 : k < j
    · rw [if_pos h2, if_pos (by omega)]
    · rw [if_neg h2, if_neg (by omega)]
theorem ntR_0 {vv : Nat → Nat → Int32} {n : Nat} {s : Nat → Int32} : ntR vv n s 0 = s := by funext k; simp [ntR]
set_option maxHeartbeats 4000000 in
set_option maxRecDepth 100000 in
theorem c_X1_noteWhoSeesWhom {l : Launch} {X : Gx} {f : Hp} {b : Nat} (hb : b < 3) {d cc_ : Int32} {s nu : Nat → Int32} {vv : Nat → Nat → Int32} {n : Nat} (hN : cc_ = nI n) (h8 : n ≤ 8) (hnu : ∀ p, p < n → nu p = nI p) (hok : ∀ p, p < n → okV (vv p))  : Cv l X yX1_noteWhoSeesWhom cX1_noteWhoSeesWhom 2 (none) (rmk 3 69) [.ref (ga X (1 + 11 * b))] (qH X f b d cc_ s nu vv) (fun g => g = qH X f b d cc_ (ntR vv n s n) nu vv) := by
  refine ct_v (own := RX1) (lv := [some (.ref (ga X (1 + 11 * b))), none]) (by decide) rfl (Nat.le_of_ble_eq_true rfl) (Nat.le_of_ble_eq_true rfl) rfl (fun C hC hR => ?_)
  have loop : ∀ j, j ≤ n → V l X (rmk 3 69) C (qH X f b d cc_ (ntR vv n s j) nu vv) 2 [some (.ref (ga X (1 + 11 * b))), some (.int (nI j))] [] := by
    refine v_up n ?_ ?_
    · refine v_iload_n hC rfl dX1_noteWhoSeesWhom_2 (q := 3) rfl ?_
      refine v_aload_n hC rfl dX1_noteWhoSeesWhom_3 (q := 4) rfl ?_
      refine v_get hC fl_X1_15 (k := 1 + 11 * b) (by omega) qH_q rfl dX1_noteWhoSeesWhom_4 (q := 7) rfl ?_
      refine v_icmp_ge hC dX1_noteWhoSeesWhom_7 (t := 29) rfl (q := 10) rfl (fun _ => ?_) (fun h => absurd (by rw [hN]; exact Int32.le_refl _) h)
      refine hR _ _ _ ?_ dX1_noteWhoSeesWhom_29
      rfl
    · intro j hj ih
      refine v_iload_n hC rfl dX1_noteWhoSeesWhom_2 (q := 3) rfl ?_
      refine v_aload_n hC rfl dX1_noteWhoSeesWhom_3 (q := 4) rfl ?_
      refine v_get hC fl_X1_15 (k := 1 + 11 * b) (by omega) qH_q rfl dX1_noteWhoSeesWhom_4 (q := 7) rfl ?_
      refine v_icmp_ge hC dX1_noteWhoSeesWhom_7 (t := 29) rfl (q := 10) rfl (fun h => absurd h (by rw [hN]; exact nI_ge hj (by omega))) (fun _ => ?_)
      refine v_aload_n hC rfl dX1_noteWhoSeesWhom_10 (q := 11) rfl ?_
      refine v_get hC fl_X1_24 (k := 1 + 11 * b) (by omega) qH_q rfl dX1_noteWhoSeesWhom_11 (q := 14) rfl ?_
      refine v_iload_n hC rfl dX1_noteWhoSeesWhom_14 (q := 15) rfl ?_
      refine v_aload_n hC rfl dX1_noteWhoSeesWhom_15 (q := 16) rfl ?_
      refine v_iload_n hC rfl dX1_noteWhoSeesWhom_16 (q := 17) rfl ?_
      refine v_bipush hC (v := 30) rfl dX1_noteWhoSeesWhom_17 (q := 19) rfl ?_
      refine v_Vi hC lkV_X1_56 (c_X1_othersAsSharpAs hb hN h8 hnu hok hj) rfl (by decide) (k := 1 + 11 * b) (by omega) qH_q rfl rfl (Nat.le_of_ble_eq_true rfl) dX1_noteWhoSeesWhom_19 (q := 22) rfl ?_
      rintro _ _ ⟨rfl, rfl⟩
      refine v_iast hC (k := 3 + 11 * b) (by omega) qH_s (ix8' (by omega)) (j := j) (nI_clamp (by omega)) (qH_sb _) dX1_noteWhoSeesWhom_22 (q := 23) rfl ?_
      refine v_iinc_1 hC (v := _ + 1) rfl rfl dX1_noteWhoSeesWhom_23 (q := 26) rfl ?_
      refine v_goto hC dX1_noteWhoSeesWhom_26 (t := 2) rfl ?_
      refine v_same ?_ ?_ rfl ih
      · rw [ntR_s]
      · simp [nI_1]
  refine v_iconst hC (v := 0) rfl dX1_noteWhoSeesWhom_0 (q := 1) rfl ?_
  refine v_istore_1 hC rfl dX1_noteWhoSeesWhom_1 (q := 2) rfl ?_
  refine v_same ?_ rfl rfl (loop 0 (Nat.zero_le _))
  rw [ntR_0]

set_option maxHeartbeats 4000000 in
set_option maxRecDepth 100000 in
theorem c_X1_sharpnessAtOthers {l : Launch} {X : Gx} {f : Hp} {b : Nat} (hb : b < 3) {d cc_ : Int32} {s nu : Nat → Int32} {vv : Nat → Nat → Int32} {n : Nat} (hN : cc_ = nI n) (h8 : n ≤ 8) (hnu : ∀ p, p < n → nu p = nI p) (hok : ∀ p, p < n → okV (vv p)) {p : Nat} (hp : p < n) : Ci l X yX1_sharpnessAtOthers cX1_sharpnessAtOthers 4 (some .int) (rmk 2 45) [.ref (ga X (1 + 11 * b)), .int (nI p)] (qH X f b d cc_ s nu vv) (fun z g => z = allF (nI p) (vv p) n ∧ g = qH X f b d cc_ s nu vv) := by
  refine ct_i (own := RX1) (lv := [some (.ref (ga X (1 + 11 * b))), some (.int (nI p)), none, none]) (by decide) rfl (Nat.le_of_ble_eq_true rfl) (Nat.le_of_ble_eq_true rfl) rfl (fun C hC hR => ?_)
  have loop : ∀ j, j ≤ n → V l X (rmk 2 45) C (qH X f b d cc_ s nu vv) 4 [some (.ref (ga X (1 + 11 * b))), some (.int (nI p)), some (.int (allF (nI p) (vv p) j)), some (.int (nI j))] [] := by
    refine v_up n ?_ ?_
    · refine v_iload_n hC rfl dX1_sharpnessAtOthers_4 (q := 5) rfl ?_
      refine v_aload_n hC rfl dX1_sharpnessAtOthers_5 (q := 6) rfl ?_
      refine v_get hC fl_X1_15 (k := 1 + 11 * b) (by omega) qH_q rfl dX1_sharpnessAtOthers_6 (q := 9) rfl ?_
      refine v_icmp_ge hC dX1_sharpnessAtOthers_9 (t := 40) rfl (q := 12) rfl (fun _ => ?_) (fun h => absurd (by rw [hN]; exact Int32.le_refl _) h)
      refine v_iload_n hC rfl dX1_sharpnessAtOthers_40 (q := 41) rfl ?_
      refine hR _ _ _ _ ?_ dX1_sharpnessAtOthers_41
      exact ⟨rfl, rfl⟩
    · intro j hj ih
      refine v_iload_n hC rfl dX1_sharpnessAtOthers_4 (q := 5) rfl ?_
      refine v_aload_n hC rfl dX1_sharpnessAtOthers_5 (q := 6) rfl ?_
      refine v_get hC fl_X1_15 (k := 1 + 11 * b) (by omega) qH_q rfl dX1_sharpnessAtOthers_6 (q := 9) rfl ?_
      refine v_icmp_ge hC dX1_sharpnessAtOthers_9 (t := 40) rfl (q := 12) rfl (fun h => absurd h (by rw [hN]; exact nI_ge hj (by omega))) (fun _ => ?_)
      refine v_iload_n hC rfl dX1_sharpnessAtOthers_12 (q := 13) rfl ?_
      refine v_iload_n hC rfl dX1_sharpnessAtOthers_13 (q := 14) rfl ?_
      refine v_iload_n hC rfl dX1_sharpnessAtOthers_14 (q := 15) rfl ?_
      refine v_icmp_ne hC dX1_sharpnessAtOthers_15 (t := 22) rfl (q := 18) rfl (fun h15 => ?_) (fun h15 => ?_)
      · refine v_aload_n hC rfl dX1_sharpnessAtOthers_22 (q := 23) rfl ?_
        refine v_get hC fl_X1_20 (k := 1 + 11 * b) (by omega) qH_q rfl dX1_sharpnessAtOthers_23 (q := 26) rfl ?_
        refine v_iload_n hC rfl dX1_sharpnessAtOthers_26 (q := 27) rfl ?_
        refine v_aald hC 2 (k := 2 + 11 * b) (by omega) qH_p rfl (ix8' (by omega)) (j := p) (nI_clamp (by omega)) rfl dX1_sharpnessAtOthers_27 (q := 28) rfl ?_
        refine v_iload_n hC rfl dX1_sharpnessAtOthers_28 (q := 29) rfl ?_
        refine v_Vi hC lkV_X1_52 (c_X0_sharpnessAt_F (q := 4 + 11 * b + p) (by omega) (qH_o (by omega)) (hok p hp)) rfl (by decide) (k := 4 + 11 * b + p) (by omega) (qH_oo (by omega)) rfl rfl (Nat.le_of_ble_eq_true rfl) dX1_sharpnessAtOthers_29 (q := 32) rfl ?_
        rintro _ _ ⟨rfl, rfl⟩
        rw [hnu p hp]
        refine v_iadd hC dX1_sharpnessAtOthers_32 (q := 33) rfl ?_
        refine v_istore_2 hC rfl dX1_sharpnessAtOthers_33 (q := 34) rfl ?_
        refine v_iinc_3 hC (v := _ + 1) rfl rfl dX1_sharpnessAtOthers_34 (q := 37) rfl ?_
        refine v_goto hC dX1_sharpnessAtOthers_37 (t := 4) rfl ?_
        refine v_same rfl ?_ rfl ih
        rw [allF, if_neg h15]
        simp [nI_1]
      · refine v_iconst hC (v := 0) rfl dX1_sharpnessAtOthers_18 (q := 19) rfl ?_
        refine v_goto hC dX1_sharpnessAtOthers_19 (t := 32) rfl ?_
        refine v_iadd hC dX1_sharpnessAtOthers_32 (q := 33) rfl ?_
        refine v_istore_2 hC rfl dX1_sharpnessAtOthers_33 (q := 34) rfl ?_
        refine v_iinc_3 hC (v := _ + 1) rfl rfl dX1_sharpnessAtOthers_34 (q := 37) rfl ?_
        refine v_goto hC dX1_sharpnessAtOthers_37 (t := 4) rfl ?_
        refine v_same rfl ?_ rfl ih
        rw [allF, if_pos h15]
        simp [nI_1]
  refine v_iconst hC (v := 0) rfl dX1_sharpnessAtOthers_0 (q := 1) rfl ?_
  refine v_istore_2 hC rfl dX1_sharpnessAtOthers_1 (q := 2) rfl ?_
  refine v_iconst hC (v := 0) rfl dX1_sharpnessAtOthers_2 (q := 3) rfl ?_
  refine v_istore_3 hC rfl dX1_sharpnessAtOthers_3 (q := 4) rfl ?_
  exact loop 0 (Nat.zero_le _)

set_option maxHeartbeats 4000000 in
set_option maxRecDepth 100000 in
theorem c_X1_sharpestOfAll {l : Launch} {X : Gx} {f : Hp} {b : Nat} (hb : b < 3) {d cc_ : Int32} {s nu : Nat → Int32} {vv : Nat → Nat → Int32} {n : Nat} (hN : cc_ = nI n) (h8 : n ≤ 8) (hnu : ∀ p, p < n → nu p = nI p) (hok : ∀ p, p < n → okV (vv p))  : Ci l X yX1_sharpestOfAll cX1_sharpestOfAll 5 (some .int) (rmk 3 68) [.ref (ga X (1 + 11 * b))] (qH X f b d cc_ s nu vv) (fun z g => z = nI ((shaF (fun p => allF (nI p) (vv p) n) n).2.getD 0) ∧ g = qH X f b d cc_ s nu vv) := by
  refine ct_i (own := RX1) (lv := [some (.ref (ga X (1 + 11 * b))), none, none, none, none]) (by decide) rfl (Nat.le_of_ble_eq_true rfl) (Nat.le_of_ble_eq_true rfl) rfl (fun C hC hR => ?_)
  have loop : ∀ j, j ≤ n → V l X (rmk 3 68) C (qH X f b d cc_ s nu vv) 6 [some (.ref (ga X (1 + 11 * b))), some (.int (nI ((shaF (fun p => allF (nI p) (vv p) n) j).2.getD 0))), some (.int ((shaF (fun p => allF (nI p) (vv p) n) j).1)), some (.int (nI j)), none] [] := by
    refine v_up n ?_ ?_
    · refine v_iload_n hC rfl dX1_sharpestOfAll_6 (q := 7) rfl ?_
      refine v_aload_n hC rfl dX1_sharpestOfAll_7 (q := 8) rfl ?_
      refine v_get hC fl_X1_15 (k := 1 + 11 * b) (by omega) qH_q rfl dX1_sharpestOfAll_8 (q := 11) rfl ?_
      refine v_icmp_ge hC dX1_sharpestOfAll_11 (t := 38) rfl (q := 14) rfl (fun _ => ?_) (fun h => absurd (by rw [hN]; exact Int32.le_refl _) h)
      refine v_iload_n hC rfl dX1_sharpestOfAll_38 (q := 39) rfl ?_
      refine hR _ _ _ _ ?_ dX1_sharpestOfAll_39
      exact ⟨rfl, rfl⟩
    · intro j hj ih
      refine v_iload_n hC rfl dX1_sharpestOfAll_6 (q := 7) rfl ?_
      refine v_aload_n hC rfl dX1_sharpestOfAll_7 (q := 8) rfl ?_
      refine v_get hC fl_X1_15 (k := 1 + 11 * b) (by omega) qH_q rfl dX1_sharpestOfAll_8 (q := 11) rfl ?_
      refine v_icmp_ge hC dX1_sharpestOfAll_11 (t := 38) rfl (q := 14) rfl (fun h => absurd h (by rw [hN]; exact nI_ge hj (by omega))) (fun _ => ?_)
      refine v_aload_n hC rfl dX1_sharpestOfAll_14 (q := 15) rfl ?_
      refine v_iload_n hC rfl dX1_sharpestOfAll_15 (q := 16) rfl ?_
      refine v_Vi hC lkV_X1_64 (c_X1_sharpnessAtOthers hb hN h8 hnu hok hj) rfl (by decide) (k := 1 + 11 * b) (by omega) qH_q rfl rfl (Nat.le_of_ble_eq_true rfl) dX1_sharpestOfAll_16 (q := 19) rfl ?_
      rintro _ _ ⟨rfl, rfl⟩
      refine v_istore_4 hC rfl dX1_sharpestOfAll_19 (q := 21) rfl ?_
      refine v_iload hC rfl dX1_sharpestOfAll_21 (q := 23) rfl ?_
      refine v_iload_n hC rfl dX1_sharpestOfAll_23 (q := 24) rfl ?_
      refine v_icmp_le hC dX1_sharpestOfAll_24 (t := 32) rfl (q := 27) rfl (fun h24 => ?_) (fun h24 => ?_)
      · refine v_iinc_3 hC (v := _ + 1) rfl rfl dX1_sharpestOfAll_32 (q := 35) rfl ?_
        refine v_goto hC dX1_sharpestOfAll_35 (t := 6) rfl ?_
        refine v_weak (lv' := [some (.ref (ga X (1 + 11 * b))), some (.int (nI ((shaF (fun p => allF (nI p) (vv p) n) j).2.getD 0))), some (.int ((shaF (fun p => allF (nI p) (vv p) n) j).1)), some (.int (nI j + 1)), none]) ⟨rfl, rfl, rfl, rfl, trivial⟩ ?_
        refine v_same rfl ?_ rfl ih
        rw [shaF, if_neg (Int32.not_lt.mpr h24)]
        simp [nI_1]
      · refine v_iload hC rfl dX1_sharpestOfAll_27 (q := 29) rfl ?_
        refine v_istore_2 hC rfl dX1_sharpestOfAll_29 (q := 30) rfl ?_
        refine v_iload_n hC rfl dX1_sharpestOfAll_30 (q := 31) rfl ?_
        refine v_istore_1 hC rfl dX1_sharpestOfAll_31 (q := 32) rfl ?_
        refine v_iinc_3 hC (v := _ + 1) rfl rfl dX1_sharpestOfAll_32 (q := 35) rfl ?_
        refine v_goto hC dX1_sharpestOfAll_35 (t := 6) rfl ?_
        refine v_weak (lv' := [some (.ref (ga X (1 + 11 * b))), some (.int (nI j)), some (.int (allF (nI j) (vv j) n)), some (.int (nI j + 1)), none]) ⟨rfl, rfl, rfl, rfl, trivial⟩ ?_
        refine v_same rfl ?_ rfl ih
        rw [shaF, if_pos (Int32.not_le.mp h24)]
        simp [nI_1]
  refine v_iconst hC (v := 0) rfl dX1_sharpestOfAll_0 (q := 1) rfl ?_
  refine v_istore_1 hC rfl dX1_sharpestOfAll_1 (q := 2) rfl ?_
  refine v_iconst hC (v := (-1)) rfl dX1_sharpestOfAll_2 (q := 3) rfl ?_
  refine v_istore_2 hC rfl dX1_sharpestOfAll_3 (q := 4) rfl ?_
  refine v_iconst hC (v := 0) rfl dX1_sharpestOfAll_4 (q := 5) rfl ?_
  refine v_istore_3 hC rfl dX1_sharpestOfAll_5 (q := 6) rfl ?_
  exact loop 0 (Nat.zero_le _)

def swF (s : Nat → Int32) (n : Nat) (st : Int32) : Nat → Int32
  | 0 => 0
  | k + 1 => swF s n st k ||| (if st &&& bitI k = 0 then s k else allI n &&& (bitI k ^^^ -1))
set_option maxHeartbeats 4000000 in
set_option maxRecDepth 100000 in
theorem c_X1_seenWithUp {l : Launch} {X : Gx} {f : Hp} {b : Nat} (hb : b < 3) {d cc_ : Int32} {s nu : Nat → Int32} {vv : Nat → Nat → Int32} {n : Nat} (hN : cc_ = nI n) (h8 : n ≤ 8) {st : Int32} : Ci l X yX1_seenWithUp cX1_seenWithUp 5 (some .int) (rmk 1 20) [.ref (ga X (1 + 11 * b)), .int st] (qH X f b d cc_ s nu vv) (fun z g => z = swF s n st n ∧ g = qH X f b d cc_ s nu vv) := by
  refine ct_i (own := RX1) (lv := [some (.ref (ga X (1 + 11 * b))), some (.int st), none, none, none]) (by decide) rfl (Nat.le_of_ble_eq_true rfl) (Nat.le_of_ble_eq_true rfl) rfl (fun C hC hR => ?_)
  have loop : ∀ j, j ≤ n → V l X (rmk 1 20) C (qH X f b d cc_ s nu vv) 4 [some (.ref (ga X (1 + 11 * b))), some (.int st), some (.int (swF s n st j)), some (.int (nI j)), none] [] := by
    refine v_up n ?_ ?_
    · refine v_iload_n hC rfl dX1_seenWithUp_4 (q := 5) rfl ?_
      refine v_aload_n hC rfl dX1_seenWithUp_5 (q := 6) rfl ?_
      refine v_get hC fl_X1_15 (k := 1 + 11 * b) (by omega) qH_q rfl dX1_seenWithUp_6 (q := 9) rfl ?_
      refine v_icmp_ge hC dX1_seenWithUp_9 (t := 60) rfl (q := 12) rfl (fun _ => ?_) (fun h => absurd (by rw [hN]; exact Int32.le_refl _) h)
      refine v_iload_n hC rfl dX1_seenWithUp_60 (q := 61) rfl ?_
      refine hR _ _ _ _ ?_ dX1_seenWithUp_61
      exact ⟨rfl, rfl⟩
    · intro j hj ih
      refine v_iload_n hC rfl dX1_seenWithUp_4 (q := 5) rfl ?_
      refine v_aload_n hC rfl dX1_seenWithUp_5 (q := 6) rfl ?_
      refine v_get hC fl_X1_15 (k := 1 + 11 * b) (by omega) qH_q rfl dX1_seenWithUp_6 (q := 9) rfl ?_
      refine v_icmp_ge hC dX1_seenWithUp_9 (t := 60) rfl (q := 12) rfl (fun h => absurd h (by rw [hN]; exact nI_ge hj (by omega))) (fun _ => ?_)
      refine v_iload_n hC rfl dX1_seenWithUp_12 (q := 13) rfl ?_
      refine v_iconst hC (v := 1) rfl dX1_seenWithUp_13 (q := 14) rfl ?_
      refine v_iload_n hC rfl dX1_seenWithUp_14 (q := 15) rfl ?_
      refine v_ishl hC dX1_seenWithUp_15 (q := 16) rfl ?_
      refine v_iand hC dX1_seenWithUp_16 (q := 17) rfl ?_
      refine v_if_eq hC dX1_seenWithUp_17 (t := 24) rfl (q := 20) rfl (fun h17 => ?_) (fun h17 => ?_)
      · refine v_iconst hC (v := 0) rfl dX1_seenWithUp_24 (q := 25) rfl ?_
        refine v_istore_4 hC rfl dX1_seenWithUp_25 (q := 27) rfl ?_
        refine v_iload_n hC rfl dX1_seenWithUp_27 (q := 28) rfl ?_
        refine v_iload hC rfl dX1_seenWithUp_28 (q := 30) rfl ?_
        refine v_if_eq hC dX1_seenWithUp_30 (t := 46) rfl (q := 33) rfl (fun _ => ?_) (fun h => absurd h (by decide))
        refine v_aload_n hC rfl dX1_seenWithUp_46 (q := 47) rfl ?_
        refine v_get hC fl_X1_24 (k := 1 + 11 * b) (by omega) qH_q rfl dX1_seenWithUp_47 (q := 50) rfl ?_
        refine v_iload_n hC rfl dX1_seenWithUp_50 (q := 51) rfl ?_
        refine v_iald hC (k := 3 + 11 * b) (by omega) qH_s (ix8' (by omega)) (j := j) (nI_clamp (by omega)) dX1_seenWithUp_51 (q := 52) rfl ?_
        refine v_ior hC dX1_seenWithUp_52 (q := 53) rfl ?_
        refine v_istore_2 hC rfl dX1_seenWithUp_53 (q := 54) rfl ?_
        refine v_iinc_3 hC (v := _ + 1) rfl rfl dX1_seenWithUp_54 (q := 57) rfl ?_
        refine v_goto hC dX1_seenWithUp_57 (t := 4) rfl ?_
        have h17 : st &&& bitI j = 0 := h17
        refine v_weak (lv' := [some (.ref (ga X (1 + 11 * b))), some (.int st), some (.int (swF s n st j ||| s j)), some (.int (nI j + 1)), none]) ⟨rfl, rfl, rfl, rfl, trivial⟩ ?_
        refine v_same rfl ?_ rfl ih
        rw [swF, if_pos h17]
        simp [nI_1]
      · refine v_iconst hC (v := 1) rfl dX1_seenWithUp_20 (q := 21) rfl ?_
        refine v_goto hC dX1_seenWithUp_21 (t := 25) rfl ?_
        refine v_istore_4 hC rfl dX1_seenWithUp_25 (q := 27) rfl ?_
        refine v_iload_n hC rfl dX1_seenWithUp_27 (q := 28) rfl ?_
        refine v_iload hC rfl dX1_seenWithUp_28 (q := 30) rfl ?_
        refine v_if_eq hC dX1_seenWithUp_30 (t := 46) rfl (q := 33) rfl (fun h => absurd h (by decide)) (fun _ => ?_)
        refine v_aload_n hC rfl dX1_seenWithUp_33 (q := 34) rfl ?_
        refine v_Vi hC lkV_X1_60 (c_X1_all hb hN h8) rfl (by decide) (k := 1 + 11 * b) (by omega) qH_q rfl rfl (Nat.le_of_ble_eq_true rfl) dX1_seenWithUp_34 (q := 37) rfl ?_
        rintro _ _ ⟨rfl, rfl⟩
        refine v_iconst hC (v := 1) rfl dX1_seenWithUp_37 (q := 38) rfl ?_
        refine v_iload_n hC rfl dX1_seenWithUp_38 (q := 39) rfl ?_
        refine v_ishl hC dX1_seenWithUp_39 (q := 40) rfl ?_
        refine v_iconst hC (v := (-1)) rfl dX1_seenWithUp_40 (q := 41) rfl ?_
        refine v_ixor hC dX1_seenWithUp_41 (q := 42) rfl ?_
        refine v_iand hC dX1_seenWithUp_42 (q := 43) rfl ?_
        refine v_goto hC dX1_seenWithUp_43 (t := 52) rfl ?_
        refine v_ior hC dX1_seenWithUp_52 (q := 53) rfl ?_
        refine v_istore_2 hC rfl dX1_seenWithUp_53 (q := 54) rfl ?_
        refine v_iinc_3 hC (v := _ + 1) rfl rfl dX1_seenWithUp_54 (q := 57) rfl ?_
        refine v_goto hC dX1_seenWithUp_57 (t := 4) rfl ?_
        have h17 : ¬ st &&& bitI j = 0 := h17
        refine v_weak (lv' := [some (.ref (ga X (1 + 11 * b))), some (.int st), some (.int (swF s n st j ||| (allI n &&& (bitI j ^^^ -1)))), some (.int (nI j + 1)), none]) ⟨rfl, rfl, rfl, rfl, trivial⟩ ?_
        refine v_same rfl ?_ rfl ih
        rw [swF, if_neg h17]
        simp [nI_1]
  refine v_iconst hC (v := 0) rfl dX1_seenWithUp_0 (q := 1) rfl ?_
  refine v_istore_2 hC rfl dX1_seenWithUp_1 (q := 2) rfl ?_
  refine v_iconst hC (v := 0) rfl dX1_seenWithUp_2 (q := 3) rfl ?_
  refine v_istore_3 hC rfl dX1_seenWithUp_3 (q := 4) rfl ?_
  exact loop 0 (Nat.zero_le _)

set_option maxHeartbeats 4000000 in
set_option maxRecDepth 100000 in
theorem c_X1_welcome {l : Launch} {X : Gx} {f : Hp} {b : Nat} (hb : b < 3) {d cc_ : Int32} {s nu : Nat → Int32} {vv : Nat → Nat → Int32} {n : Nat} (hN : cc_ = nI n) (h8 : n < 8) {kd : Int32} : Cr l X yX1_welcome cX1_welcome 3 (some (.object "GrudgeGlasses$One")) (rmk 1 22) [.ref (ga X (1 + 11 * b)), .int kd] (qH X f b d cc_ s nu vv) (fun r g => r = ga X (4 + 11 * b + n) ∧ g = qH X f b d (nI n + 1) s (upd nu n (nI n)) (va_up vv n (newV kd 20 (-1)))) := by
  refine ct_r (own := RX1) (lv := [some (.ref (ga X (1 + 11 * b))), some (.int kd), none]) (by decide) rfl (Nat.le_of_ble_eq_true rfl) (Nat.le_of_ble_eq_true rfl) rfl (fun C hC hR => ?_)
  refine v_aload_n hC rfl dX1_welcome_0 (q := 1) rfl ?_
  refine v_get hC fl_X1_20 (k := 1 + 11 * b) (by omega) qH_q rfl dX1_welcome_1 (q := 4) rfl ?_
  refine v_aload_n hC rfl dX1_welcome_4 (q := 5) rfl ?_
  refine v_get hC fl_X1_15 (k := 1 + 11 * b) (by omega) qH_q rfl dX1_welcome_5 (q := 8) rfl ?_
  refine v_aald hC 2 (k := 2 + 11 * b) (by omega) qH_p rfl (by rw [hN]; exact ix8' (by omega)) (j := n) (by rw [hN]; exact nI_clamp (by omega)) rfl dX1_welcome_8 (q := 9) rfl ?_
  refine v_astore_2 hC rfl dX1_welcome_9 (q := 10) rfl ?_
  refine v_aload_n hC rfl dX1_welcome_10 (q := 11) rfl ?_
  refine v_aload_n hC rfl dX1_welcome_11 (q := 12) rfl ?_
  refine v_get hC fl_X1_15 (k := 1 + 11 * b) (by omega) qH_q rfl dX1_welcome_12 (q := 15) rfl ?_
  refine v_iload_n hC rfl dX1_welcome_15 (q := 16) rfl ?_
  refine v_Vv hC lkV_X1_33 (c_X0_begin_F (q := 4 + 11 * b + n) (by omega) (qH_o (by omega))) rfl (by decide) (k := 4 + 11 * b + n) (by omega) (qH_oo (by omega)) rfl rfl (Nat.le_of_ble_eq_true rfl) dX1_welcome_16 (q := 19) rfl ?_
  rintro _ rfl
  rw [qH_set (by omega)]
  refine v_aload_n hC rfl dX1_welcome_19 (q := 20) rfl ?_
  refine v_dup hC rfl dX1_welcome_20 (q := 21) rfl ?_
  refine v_get hC fl_X1_15 (k := 1 + 11 * b) (by omega) qH_q rfl dX1_welcome_21 (q := 24) rfl ?_
  refine v_iconst hC (v := 1) rfl dX1_welcome_24 (q := 25) rfl ?_
  refine v_iadd hC dX1_welcome_25 (q := 26) rfl ?_
  refine v_put hC fl_X1_15 pt_1_1 (k := 1 + 11 * b) (by omega) qH_q (Nat.le_of_ble_eq_true rfl) rfl rfl (qH_cnt _) dX1_welcome_26 (q := 29) rfl ?_
  refine v_aload_n hC rfl dX1_welcome_29 (q := 30) rfl ?_
  refine hR _ _ _ _ ?_ dX1_welcome_30
  exact ⟨rfl, by rw [hN]⟩

def dyV (vv : Nat → Nat → Int32) (n i p : Nat) : Nat → Nat → Int32 := fun q => if q < n then (if q < p then itD (nI q) (vv q) (i + 1) else itD (nI q) (vv q) i) else vv q
theorem dyV_s {vv : Nat → Nat → Int32} {n i p : Nat} (hp : p < n) : va_up (dyV vv n i p) p (dayF (nI p) (dyV vv n i p p)) = dyV vv n i (p + 1) := by
  funext q
  by_cases h : q = p
  · subst h
    rw [va_up_self]
    simp only [dyV]
    rw [if_pos hp, if_neg (Nat.lt_irrefl _), if_pos hp, if_pos (Nat.lt_succ_self _), itD]
  · rw [va_up_ne _ _ h]
    simp only [dyV]
    by_cases h1 : q < n
    · rw [if_pos h1, if_pos h1]
      by_cases h2 : q < p
      · rw [if_pos h2, if_pos (by omega)]
      · rw [if_neg h2, if_neg (by omega)]
    · rw [if_neg h1, if_neg h1]
theorem dyV_n {vv : Nat → Nat → Int32} {n i : Nat} : dyV vv n i n = dyV vv n (i + 1) 0 := by
  funext q
  simp only [dyV]
  by_cases h1 : q < n
  · rw [if_pos h1, if_pos h1, if_pos h1, if_neg (Nat.not_lt_zero _)]
  · rw [if_neg h1, if_neg h1]
theorem dyV_0 {vv : Nat → Nat → Int32} {n : Nat} : dyV vv n 0 0 = vv := by
  funext q
  simp only [dyV]
  by_cases h1 : q < n
  · rw [if_pos h1, if_neg (Nat.not_lt_zero _), itD]
  · rw [if_neg h1]
theorem dyV_ok {vv : Nat → Nat → Int32} {n i p : Nat} (hok : ∀ p, p < n → okV (vv p)) {q : Nat} (hq : q < n) : okV (dyV vv n i p q) := by
  simp only [dyV]
  rw [if_pos hq]
  split
  · exact okV_it (hok q hq) _
  · exact okV_it (hok q hq) _
theorem add_1 (d : Int32) (i : Nat) : d + nI i + 1 = d + nI (i + 1) := by rw [Int32.add_assoc, nI_1]
theorem add_0 (d : Int32) : d + nI 0 = d := by rw [show nI 0 = 0 from rfl, Int32.add_zero]
set_option maxHeartbeats 4000000 in
set_option maxRecDepth 100000 in
theorem c_X1_letDaysGo {l : Launch} {X : Gx} {f : Hp} {b : Nat} (hb : b < 3) {d cc_ : Int32} {s nu : Nat → Int32} {vv : Nat → Nat → Int32} {n : Nat} (hN : cc_ = nI n) (h8 : n ≤ 8) (hnu : ∀ p, p < n → nu p = nI p) (hok : ∀ p, p < n → okV (vv p)) {k : Nat} (hk : k < 2147483648) : Cv l X yX1_letDaysGo cX1_letDaysGo 4 (none) (rmk 4 87) [.ref (ga X (1 + 11 * b)), .int (nI k)] (qH X f b d cc_ s nu vv) (fun g => g = qH X f b (d + nI k) cc_ s nu (dyV vv n k 0)) := by
  refine ct_v (own := RX1) (lv := [some (.ref (ga X (1 + 11 * b))), some (.int (nI k)), none, none]) (by decide) rfl (Nat.le_of_ble_eq_true rfl) (Nat.le_of_ble_eq_true rfl) rfl (fun C hC hR => ?_)
  have inner : ∀ i, V l X (rmk 4 87) C (qH X f b (d + nI i) cc_ s nu (dyV vv n i n)) 32 [some (.ref (ga X (1 + 11 * b))), some (.int (nI k)), some (.int (nI i)), some (.int (nI n))] [] → ∀ j, j ≤ n → V l X (rmk 4 87) C (qH X f b (d + nI i) cc_ s nu (dyV vv n i j)) 9 [some (.ref (ga X (1 + 11 * b))), some (.int (nI k)), some (.int (nI i)), some (.int (nI j))] [] := by
    intro i hfin
    refine v_up n ?_ ?_
    · refine v_iload_n hC rfl dX1_letDaysGo_9 (q := 10) rfl ?_
      refine v_aload_n hC rfl dX1_letDaysGo_10 (q := 11) rfl ?_
      refine v_get hC fl_X1_15 (k := 1 + 11 * b) (by omega) qH_q rfl dX1_letDaysGo_11 (q := 14) rfl ?_
      refine v_icmp_ge hC dX1_letDaysGo_14 (t := 32) rfl (q := 17) rfl (fun _ => ?_) (fun h => absurd (by rw [hN]; exact Int32.le_refl _) h)
      exact hfin
    · intro j hj ih
      refine v_iload_n hC rfl dX1_letDaysGo_9 (q := 10) rfl ?_
      refine v_aload_n hC rfl dX1_letDaysGo_10 (q := 11) rfl ?_
      refine v_get hC fl_X1_15 (k := 1 + 11 * b) (by omega) qH_q rfl dX1_letDaysGo_11 (q := 14) rfl ?_
      refine v_icmp_ge hC dX1_letDaysGo_14 (t := 32) rfl (q := 17) rfl (fun h => absurd h (by rw [hN]; exact nI_ge hj (by omega))) (fun _ => ?_)
      refine v_aload_n hC rfl dX1_letDaysGo_17 (q := 18) rfl ?_
      refine v_get hC fl_X1_20 (k := 1 + 11 * b) (by omega) qH_q rfl dX1_letDaysGo_18 (q := 21) rfl ?_
      refine v_iload_n hC rfl dX1_letDaysGo_21 (q := 22) rfl ?_
      refine v_aald hC 2 (k := 2 + 11 * b) (by omega) qH_p rfl (ix8' (by omega)) (j := j) (nI_clamp (by omega)) rfl dX1_letDaysGo_22 (q := 23) rfl ?_
      refine v_Vv hC lkV_X1_37 (c_X0_letDayGo_F (q := 4 + 11 * b + j) (by omega) (qH_o (by omega)) (dyV_ok hok hj)) rfl (by decide) (k := 4 + 11 * b + j) (by omega) (qH_oo (by omega)) rfl rfl (Nat.le_of_ble_eq_true rfl) dX1_letDaysGo_23 (q := 26) rfl ?_
      rintro _ rfl
      rw [qH_set (by omega), upd_id rfl, hnu j hj, dyV_s hj]
      refine v_iinc_3 hC (v := _ + 1) rfl rfl dX1_letDaysGo_26 (q := 29) rfl ?_
      refine v_goto hC dX1_letDaysGo_29 (t := 9) rfl ?_
      refine v_same rfl ?_ rfl ih
      simp [nI_1]
  have outer : ∀ i, i ≤ k → V l X (rmk 4 87) C (qH X f b (d + nI i) cc_ s nu (dyV vv n i 0)) 2 [some (.ref (ga X (1 + 11 * b))), some (.int (nI k)), some (.int (nI i)), none] [] := by
    refine v_up k ?_ ?_
    · refine v_iload_n hC rfl dX1_letDaysGo_2 (q := 3) rfl ?_
      refine v_iload_n hC rfl dX1_letDaysGo_3 (q := 4) rfl ?_
      refine v_icmp_ge hC dX1_letDaysGo_4 (t := 48) rfl (q := 7) rfl (fun _ => ?_) (fun h => absurd (Int32.le_refl _) h)
      refine hR _ _ _ ?_ dX1_letDaysGo_48
      rfl
    · intro i hj ih
      refine v_iload_n hC rfl dX1_letDaysGo_2 (q := 3) rfl ?_
      refine v_iload_n hC rfl dX1_letDaysGo_3 (q := 4) rfl ?_
      refine v_icmp_ge hC dX1_letDaysGo_4 (t := 48) rfl (q := 7) rfl (fun h => absurd h (nI_ge hj hk)) (fun _ => ?_)
      refine v_iconst hC (v := 0) rfl dX1_letDaysGo_7 (q := 8) rfl ?_
      refine v_istore_3 hC rfl dX1_letDaysGo_8 (q := 9) rfl ?_
      refine inner i ?_ 0 (Nat.zero_le _)
      refine v_aload_n hC rfl dX1_letDaysGo_32 (q := 33) rfl ?_
      refine v_dup hC rfl dX1_letDaysGo_33 (q := 34) rfl ?_
      refine v_get hC fl_X1_9 (k := 1 + 11 * b) (by omega) qH_q rfl dX1_letDaysGo_34 (q := 37) rfl ?_
      refine v_iconst hC (v := 1) rfl dX1_letDaysGo_37 (q := 38) rfl ?_
      refine v_iadd hC dX1_letDaysGo_38 (q := 39) rfl ?_
      refine v_put hC fl_X1_9 pt_1_0 (k := 1 + 11 * b) (by omega) qH_q (Nat.le_of_ble_eq_true rfl) rfl rfl (qH_day _) dX1_letDaysGo_39 (q := 42) rfl ?_
      refine v_iinc_2 hC (v := _ + 1) rfl rfl dX1_letDaysGo_42 (q := 45) rfl ?_
      refine v_goto hC dX1_letDaysGo_45 (t := 2) rfl ?_
      refine v_weak (lv' := [some (.ref (ga X (1 + 11 * b))), some (.int (nI k)), some (.int (nI i + 1)), none]) ⟨rfl, rfl, rfl, trivial⟩ ?_
      refine v_same ?_ ?_ rfl ih
      · rw [add_1, dyV_n]
      · simp [nI_1]
  refine v_iconst hC (v := 0) rfl dX1_letDaysGo_0 (q := 1) rfl ?_
  refine v_istore_2 hC rfl dX1_letDaysGo_1 (q := 2) rfl ?_
  refine v_same ?_ rfl rfl (outer 0 (Nat.zero_le _))
  rw [add_0, dyV_0]
