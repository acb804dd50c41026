/-! ===== sheets: bt bits, sz sizes, numbers cq s k ===== -/
abbrev AnL : Type := Nat ⊕ Int64
def ansL : AnL → Int64
  | .inl k => (fnd k).toInt64
  | .inr z => z
def fnL (r : Nat → Nat → Int32) : AnL → Nat → Nat → Int32
  | .inl k => fR r k
  | .inr _ => r
def cutF (b : Int32) (v : Int64) : Int64 := if b = 8 then v.toInt32.toInt8.toInt32.toInt64 else if b = 16 then v.toInt32.toInt16.toInt32.toInt64 else v
def bOK (b : Int32) : Prop := b = 0 ∨ b = 8 ∨ b = 16 ∨ b = 64
def S_sheet (s b n : Int32) : An := match pIx 4 s with
  | none => .inl 0
  | some _ => if b = 0 ∨ b = 8 ∨ b = 16 ∨ b = 64 then (if n < 0 then .inl 6 else if n ≤ 40 then .inr (if b = 0 then 0 else n) else .inl 0) else .inl 0
def gSh (s b n : Int32) : Option Nat := match pIx 4 s with
  | none => none
  | some Q => if (b = 0 ∨ b = 8 ∨ b = 16 ∨ b = 64) ∧ ¬ n < 0 ∧ n ≤ 40 then some Q else none
def zrK (c : Nat → Int64) (Q k : Nat) : Nat → Int64 := fun j => if 40 * Q ≤ j ∧ j < 40 * Q + k then 0 else c j
theorem zrK_s (c : Nat → Int64) (Q k : Nat) : vp_updL (zrK c Q k) (40 * Q + k) 0 = zrK c Q (k + 1) := by
  funext j
  simp only [vp_updL, zrK]
  by_cases h : j = 40 * Q + k
  · rw [if_pos h, if_pos (by omega)]
  · rw [if_neg h]
    by_cases h2 : 40 * Q ≤ j ∧ j < 40 * Q + k
    · rw [if_pos h2, if_pos (by omega)]
    · rw [if_neg h2, if_neg (by omega)]
theorem zrK_0 (c : Nat → Int64) (Q : Nat) : zrK c Q 0 = c := by
  funext j
  simp only [zrK]
  rw [if_neg (by omega)]
theorem ix4 : ∀ j : Fin 4, ¬ (nI j.val < 0 ∨ 4 ≤ (nI j.val).toNatClampNeg) := by decide +kernel
theorem ix4' {j : Nat} (h : j < 4) : vp_in (nI j) 4 := ix4 ⟨j, h⟩
theorem ixC {q k : Nat} (h1 : q < 4) (h2 : k < 40) : vp_in (40 * nI q + nI k) 160 ∧ (40 * nI q + nI k).toNatClampNeg = 40 * q + k := by
  have e : 40 * nI q + nI k = nI (40 * q + k) := by rw [show (40 : Int32) = nI 40 from rfl, pk_mul, nI_add]
  rw [e]
  exact ⟨vp_in_nI (by omega) (by omega), nI_clamp (by omega)⟩
theorem fnd_of {z : Int32} {k : Nat} (h : z = fnd k) : z = fnd k := h
def nT (bt : Nat → Int32) (s : Int32) : Nat ⊕ Nat := match pIx 4 s with
  | none => .inl 0
  | some Q => if bt Q = 0 then .inl 5 else .inr Q
def nA (bt : Nat → Int32) (n : Nat) (s p : Int32) : Nat ⊕ (Nat × Nat) := match nT bt s with
  | .inl k => .inl k
  | .inr Q => match pIx n p with
    | none => .inl 0
    | some P => .inr (Q, P)
def whyI : Nat ⊕ Nat → Int32
  | .inl k => fnd k
  | .inr _ => 0
def whyA : Nat ⊕ (Nat × Nat) → Int32
  | .inl k => fnd k
  | .inr _ => 0
theorem fnd_ne : ∀ k : Fin 7, ¬ fnd k.val = 0 := by decide +kernel
theorem nT_lt {bt : Nat → Int32} {s : Int32} {k : Nat} (h : nT bt s = .inl k) : k < 7 := by
  unfold nT at h
  split at h
  · cases h; decide
  · split at h
    · cases h; decide
    · cases h
theorem nT_ok {bt : Nat → Int32} {s : Int32} {Q : Nat} (h : nT bt s = .inr Q) : Q < 4 ∧ s = nI Q ∧ ¬ bt Q = 0 := by
  unfold nT at h
  split at h
  · cases h
  · rename_i Q1 e
    obtain ⟨a1, a2⟩ := pIx_some (by decide) e
    split at h
    · cases h
    · cases h
      exact ⟨a1, a2, by assumption⟩
theorem nA_lt {bt : Nat → Int32} {n : Nat} {s p : Int32} {k : Nat} (h : nA bt n s p = .inl k) : k < 7 := by
  unfold nA at h
  split at h
  · rename_i j e
    cases h
    exact nT_lt e
  · split at h
    · cases h; decide
    · cases h
theorem nA_ok {bt : Nat → Int32} {n : Nat} (h8 : n ≤ 8) {s p : Int32} {Q P : Nat} (h : nA bt n s p = .inr (Q, P)) : Q < 4 ∧ s = nI Q ∧ ¬ bt Q = 0 ∧ P < n ∧ p = nI P := by
  unfold nA at h
  split at h
  · cases h
  · rename_i Q1 e
    split at h
    · cases h
    · rename_i P1 e2
      cases h
      obtain ⟨a1, a2, a3⟩ := nT_ok e
      obtain ⟨b1, b2⟩ := pIx_some h8 e2
      exact ⟨a1, a2, a3, b1, b2⟩
set_option maxHeartbeats 4000000 in
set_option maxRecDepth 100000 in
theorem c_X6_isSheet {l : Launch} {X : Gx} {f : Hp} {s : Int32} : Ci l X yX6_isSheet cX6_isSheet 1 (some .boolean) (rmk 1 23) [.int s] (f) (fun z g => ((∃ Q, Q < 4 ∧ s = nI Q) ∧ z = 1 ∨ ¬ (∃ Q, Q < 4 ∧ s = nI Q) ∧ z = 0) ∧ g = f) := by
  refine ct_z (own := RX6) (lv := [some (.int s)]) (by decide) rfl (Nat.le_of_ble_eq_true rfl) (Nat.le_of_ble_eq_true rfl) rfl (fun C hC hR => ?_)
  refine v_iload_n hC rfl dX6_isSheet_0 (q := 1) rfl ?_
  refine v_i2l hC dX6_isSheet_1 (q := 2) rfl ?_
  refine v_iconst hC (v := 0) rfl dX6_isSheet_2 (q := 3) rfl ?_
  refine v_iconst hC (v := 3) rfl dX6_isSheet_3 (q := 4) rfl ?_
  refine v_Si hC lkS_X6_41 c_X6_in rfl (by decide) rfl (Nat.le_of_ble_eq_true rfl) dX6_isSheet_4 (q := 7) rfl ?_
  rintro _ _ ⟨⟨hc4, rfl⟩ | ⟨hc4, rfl⟩, rfl⟩
  · refine hR _ _ _ _ ?_ (by first | rfl | decide | assumption) dX6_isSheet_7
    rw [show (3 : Int32) = nI 4 - 1 from by decide, isP_iff (by decide)] at hc4
    exact ⟨Or.inl ⟨hc4, rfl⟩, rfl⟩
  · refine hR _ _ _ _ ?_ (by first | rfl | decide | assumption) dX6_isSheet_7
    rw [show (3 : Int32) = nI 4 - 1 from by decide, isP_iff (by decide)] at hc4
    exact ⟨Or.inr ⟨hc4, rfl⟩, rfl⟩

set_option maxHeartbeats 4000000 in
set_option maxRecDepth 100000 in
theorem c_X6_notThere {l : Launch} {X : Gx} {S : CS} {i m : Nat → Int32} {r : Nat → Nat → Int32} {c : Nat → Int64} {s : Int32} : Ci l X yX6_notThere cX6_notThere 2 (some .int) (rmk 2 43) [.ref (ga X 47), .int s] (hp X S (i, m, r, c)) (fun z g => z = whyI (nT (r 5) s) ∧ g = hp X S (i, m, r, c)) := by
  refine ct_i (own := RX6) (lv := [some (.ref (ga X 47)), some (.int s)]) (by decide) rfl (Nat.le_of_ble_eq_true rfl) (Nat.le_of_ble_eq_true rfl) rfl (fun C hC hR => ?_)
  have hix : ∀ Q, Q < 4 → pIx 4 (nI Q) = some Q := fun Q h => pIx_nI h (by decide)
  have hno : ∀ s, (¬ ∃ Q, Q < 4 ∧ s = nI Q) → pIx 4 s = none := fun s h => pIx_no (by decide) h
  refine v_iload_n hC rfl dX6_notThere_0 (q := 1) rfl ?_
  refine v_Si hC lkS_X6_202 c_X6_isSheet rfl (by decide) rfl (Nat.le_of_ble_eq_true rfl) dX6_notThere_1 (q := 4) rfl ?_
  rintro _ _ ⟨⟨⟨Q1, hQ1, rfl⟩, rfl⟩ | ⟨hc1, rfl⟩, rfl⟩
  · refine v_if_ne hC dX6_notThere_4 (t := 12) rfl (q := 7) rfl (fun _ => ?_) (fun h => absurd h (by decide))
    refine v_aload_n hC rfl dX6_notThere_12 (q := 13) rfl ?_
    refine v_get hC fl_X6_25 (k := 47) (by decide) hp_47 rfl dX6_notThere_13 (q := 16) rfl ?_
    refine v_iload_n hC rfl dX6_notThere_16 (q := 17) rfl ?_
    refine v_iald hC (k := 53) (by decide) hp_53 (ix4' (by omega)) (j := Q1) (nI_clamp (by omega)) dX6_notThere_17 (q := 18) rfl ?_
    refine v_if_ne hC dX6_notThere_18 (t := 26) rfl (q := 21) rfl (fun h18 => ?_) (fun h18 => ?_)
    · refine v_iconst hC (v := 0) rfl dX6_notThere_26 (q := 27) rfl ?_
      refine hR _ _ _ _ ?_ dX6_notThere_27
      refine ⟨?_, rfl⟩
      simp only [nT, hix _ hQ1, if_neg h18, whyI]
    · refine v_ldc hC wk_X6_206 dX6_notThere_21 (q := 23) rfl ?_
      refine v_goto hC dX6_notThere_23 (t := 27) rfl ?_
      refine hR _ _ _ _ ?_ dX6_notThere_27
      refine ⟨?_, rfl⟩
      simp only [nT, hix _ hQ1, if_pos h18, whyI]; rfl
  · refine v_if_ne hC dX6_notThere_4 (t := 12) rfl (q := 7) rfl (fun h => absurd h (by decide)) (fun _ => ?_)
    refine v_ldc hC wk_X6_35 dX6_notThere_7 (q := 9) rfl ?_
    refine v_goto hC dX6_notThere_9 (t := 27) rfl ?_
    refine hR _ _ _ _ ?_ dX6_notThere_27
    refine ⟨?_, rfl⟩
    simp only [nT, hno _ hc1, whyI]; rfl

set_option maxHeartbeats 4000000 in
set_option maxRecDepth 100000 in
theorem c_X6_cutTo {l : Launch} {X : Gx} {f : Hp} {b : Int32} {v : Int64} : Cl l X yX6_cutTo cX6_cutTo 3 (some .long) (rmk 0 0) [.int b, .long v] (f) (fun z g => z = cutF b v ∧ g = f) := by
  refine ct_l (own := RX6) (lv := [some (.int b), some (.long v), none]) (by decide) rfl (Nat.le_of_ble_eq_true rfl) (Nat.le_of_ble_eq_true rfl) rfl (fun C hC hR => ?_)
  refine v_iload_n hC rfl dX6_cutTo_0 (q := 1) rfl ?_
  refine v_bipush hC (v := 8) rfl dX6_cutTo_1 (q := 3) rfl ?_
  refine v_icmp_ne hC dX6_cutTo_3 (t := 13) rfl (q := 6) rfl (fun h3 => ?_) (fun h3 => ?_)
  · refine v_iload_n hC rfl dX6_cutTo_13 (q := 14) rfl ?_
    refine v_bipush hC (v := 16) rfl dX6_cutTo_14 (q := 16) rfl ?_
    refine v_icmp_ne hC dX6_cutTo_16 (t := 26) rfl (q := 19) rfl (fun h16 => ?_) (fun h16 => ?_)
    · refine v_lload_n hC rfl dX6_cutTo_26 (q := 27) rfl ?_
      refine hR _ _ _ _ ?_ dX6_cutTo_27
      refine ⟨?_, rfl⟩
      simp [cutF, *]
    · refine v_lload_n hC rfl dX6_cutTo_19 (q := 20) rfl ?_
      refine v_l2i hC dX6_cutTo_20 (q := 21) rfl ?_
      refine v_i2s hC dX6_cutTo_21 (q := 22) rfl ?_
      refine v_i2l hC dX6_cutTo_22 (q := 23) rfl ?_
      refine v_goto hC dX6_cutTo_23 (t := 27) rfl ?_
      refine hR _ _ _ _ ?_ dX6_cutTo_27
      refine ⟨?_, rfl⟩
      simp [cutF, *]
  · refine v_lload_n hC rfl dX6_cutTo_6 (q := 7) rfl ?_
    refine v_l2i hC dX6_cutTo_7 (q := 8) rfl ?_
    refine v_i2b hC dX6_cutTo_8 (q := 9) rfl ?_
    refine v_i2l hC dX6_cutTo_9 (q := 10) rfl ?_
    refine v_goto hC dX6_cutTo_10 (t := 27) rfl ?_
    refine hR _ _ _ _ ?_ dX6_cutTo_27
    refine ⟨?_, rfl⟩
    simp [cutF, *]

set_option maxHeartbeats 4000000 in
set_option maxRecDepth 100000 in
theorem c_X6_sheet {l : Launch} {X : Gx} {S : CS} {i m : Nat → Int32} {r : Nat → Nat → Int32} {c : Nat → Int64} {s b n : Int32} : Ci l X yX6_sheet cX6_sheet 5 (some .int) (rmk 2 43) [.ref (ga X 47), .int s, .int b, .int n] (hp X S (i, m, r, c)) (fun z g => z = ansI (S_sheet s b n) ∧ g = match gSh s b n with
  | none => hp X S (i, m, fnR r (S_sheet s b n), c)
  | some Q => hp X S (i, m, va_up (va_up r 5 (upd (r 5) Q b)) 6 (upd (r 6) Q (if b = 0 then 0 else n)), zrK c Q 40)) := by
  refine ct_i (own := RX6) (lv := [some (.ref (ga X 47)), some (.int s), some (.int b), some (.int n), none]) (by decide) rfl (Nat.le_of_ble_eq_true rfl) (Nat.le_of_ble_eq_true rfl) rfl (fun C hC hR => ?_)
  have hix : ∀ Q, Q < 4 → pIx 4 (nI Q) = some Q := fun Q h => pIx_nI h (by decide)
  have hno : ∀ s, (¬ ∃ Q, Q < 4 ∧ s = nI Q) → pIx 4 s = none := fun s h => pIx_no (by decide) h
  have main : ∀ Q, Q < 4 → s = nI Q → (b = 0 ∨ b = 8 ∨ b = 16 ∨ b = 64) → ¬ n < 0 → n ≤ 40 → V l X (rmk 2 43) C (hp X S (i, m, va_up (va_up r 5 (upd (r 5) Q b)) 6 (upd (r 6) Q (if b = 0 then 0 else n)), zrK c Q 0)) 85 [some (.ref (ga X 47)), some (.int (nI Q)), some (.int b), some (.int n), some (.int (nI 0))] [] := by
    intro Q hQ hs hb h0 h40
    have loop : ∀ j, j ≤ 40 → V l X (rmk 2 43) C (hp X S (i, m, va_up (va_up r 5 (upd (r 5) Q b)) 6 (upd (r 6) Q (if b = 0 then 0 else n)), zrK c Q j)) 85 [some (.ref (ga X 47)), some (.int (nI Q)), some (.int b), some (.int n), some (.int (nI j))] [] := by
      refine v_up 40 ?_ ?_
      · refine v_iload hC rfl dX6_sheet_85 (q := 87) rfl ?_
        refine v_bipush hC (v := 40) rfl dX6_sheet_87 (q := 89) rfl ?_
        refine v_icmp_ge hC dX6_sheet_89 (t := 111) rfl (q := 92) rfl (fun _ => ?_) (fun h => absurd (by decide) h)
        refine v_aload_n hC rfl dX6_sheet_111 (q := 112) rfl ?_
        refine v_get hC fl_X6_28 (k := 47) (by decide) hp_47 rfl dX6_sheet_112 (q := 115) rfl ?_
        refine v_iload_n hC rfl dX6_sheet_115 (q := 116) rfl ?_
        refine v_iald hC (k := 54) (by decide) hp_54 (ix4' (by omega)) (j := Q) (nI_clamp (by omega)) dX6_sheet_116 (q := 117) rfl ?_
        refine hR _ _ _ _ ?_ dX6_sheet_117
        subst hs
        refine ⟨?_, ?_⟩
        · simp only [S_sheet, hix _ hQ, if_pos hb, if_neg h0, if_pos h40, ansI]
          simp [va_up, upd]
        · simp only [S_sheet, gSh, hix _ hQ, if_pos hb, if_neg h0, if_pos h40, fnR, if_pos (⟨hb, h0, h40⟩ : (b = 0 ∨ b = 8 ∨ b = 16 ∨ b = 64) ∧ ¬ n < 0 ∧ n ≤ 40)]
      · intro j hj ih
        refine v_iload hC rfl dX6_sheet_85 (q := 87) rfl ?_
        refine v_bipush hC (v := 40) rfl dX6_sheet_87 (q := 89) rfl ?_
        refine v_icmp_ge hC dX6_sheet_89 (t := 111) rfl (q := 92) rfl (fun h => absurd h (nI_ge (b := 40) hj (by decide))) (fun _ => ?_)
        refine v_aload_n hC rfl dX6_sheet_92 (q := 93) rfl ?_
        refine v_get hC fl_X6_31 (k := 47) (by decide) hp_47 rfl dX6_sheet_93 (q := 96) rfl ?_
        refine v_bipush hC (v := 40) rfl dX6_sheet_96 (q := 98) rfl ?_
        refine v_iload_n hC rfl dX6_sheet_98 (q := 99) rfl ?_
        refine v_imul hC dX6_sheet_99 (q := 100) rfl ?_
        refine v_iload hC rfl dX6_sheet_100 (q := 102) rfl ?_
        refine v_iadd hC dX6_sheet_102 (q := 103) rfl ?_
        refine v_lconst hC (v := 0) rfl dX6_sheet_103 (q := 104) rfl ?_
        refine v_last hC (k := 55) (by decide) hp_55 (ixC hQ hj).1 (ixC hQ hj).2 (hpc _) dX6_sheet_104 (q := 105) rfl ?_
        refine v_iinc_4 hC (v := _ + 1) rfl rfl dX6_sheet_105 (q := 108) rfl ?_
        refine v_goto hC dX6_sheet_108 (t := 85) rfl ?_
        refine v_same ?_ ?_ rfl ih
        · rw [zrK_s]
        · simp [nI_1]
    exact loop 0 (Nat.zero_le _)
  refine v_iload_n hC rfl dX6_sheet_0 (q := 1) rfl ?_
  refine v_Si hC lkS_X6_202 c_X6_isSheet rfl (by decide) rfl (Nat.le_of_ble_eq_true rfl) dX6_sheet_1 (q := 4) rfl ?_
  rintro _ _ ⟨⟨⟨Q1, hQ1, rfl⟩, rfl⟩ | ⟨hc1, rfl⟩, rfl⟩
  · refine v_if_eq hC dX6_sheet_4 (t := 29) rfl (q := 7) rfl (fun h => absurd h (by decide)) (fun _ => ?_)
    refine v_iload_n hC rfl dX6_sheet_7 (q := 8) rfl ?_
    refine v_if_eq hC dX6_sheet_8 (t := 36) rfl (q := 11) rfl (fun h8 => ?_) (fun h8 => ?_)
    · refine v_iload_n hC rfl dX6_sheet_36 (q := 37) rfl ?_
      refine v_if_ge hC dX6_sheet_37 (t := 47) rfl (q := 40) rfl (fun h37 => ?_) (fun h37 => ?_)
      · refine v_iload_n hC rfl dX6_sheet_47 (q := 48) rfl ?_
        refine v_bipush hC (v := 40) rfl dX6_sheet_48 (q := 50) rfl ?_
        refine v_icmp_le hC dX6_sheet_50 (t := 60) rfl (q := 53) rfl (fun h50 => ?_) (fun h50 => ?_)
        · refine v_aload_n hC rfl dX6_sheet_60 (q := 61) rfl ?_
          refine v_get hC fl_X6_25 (k := 47) (by decide) hp_47 rfl dX6_sheet_61 (q := 64) rfl ?_
          refine v_iload_n hC rfl dX6_sheet_64 (q := 65) rfl ?_
          refine v_iload_n hC rfl dX6_sheet_65 (q := 66) rfl ?_
          refine v_iast hC (k := 53) (by decide) hp_53 (ix4' (by omega)) (j := Q1) (nI_clamp (by omega)) (hpr_5 _) dX6_sheet_66 (q := 67) rfl ?_
          refine v_aload_n hC rfl dX6_sheet_67 (q := 68) rfl ?_
          refine v_get hC fl_X6_28 (k := 47) (by decide) hp_47 rfl dX6_sheet_68 (q := 71) rfl ?_
          refine v_iload_n hC rfl dX6_sheet_71 (q := 72) rfl ?_
          refine v_iload_n hC rfl dX6_sheet_72 (q := 73) rfl ?_
          refine v_if_ne hC dX6_sheet_73 (t := 80) rfl (q := 76) rfl (fun h73 => ?_) (fun h73 => ?_)
          · refine v_iload_n hC rfl dX6_sheet_80 (q := 81) rfl ?_
            refine v_iast hC (k := 54) (by decide) hp_54 (ix4' (by omega)) (j := Q1) (nI_clamp (by omega)) (hpr_6 _) dX6_sheet_81 (q := 82) rfl ?_
            refine v_iconst hC (v := 0) rfl dX6_sheet_82 (q := 83) rfl ?_
            refine v_istore_4 hC rfl dX6_sheet_83 (q := 85) rfl ?_
            refine v_same ?_ rfl rfl (main Q1 hQ1 rfl (Or.inl h8) (Int32.not_lt.mpr h37) h50)
            rw [zrK_0, if_neg h73]
            rfl
          · refine v_iconst hC (v := 0) rfl dX6_sheet_76 (q := 77) rfl ?_
            refine v_goto hC dX6_sheet_77 (t := 81) rfl ?_
            refine v_iast hC (k := 54) (by decide) hp_54 (ix4' (by omega)) (j := Q1) (nI_clamp (by omega)) (hpr_6 _) dX6_sheet_81 (q := 82) rfl ?_
            refine v_iconst hC (v := 0) rfl dX6_sheet_82 (q := 83) rfl ?_
            refine v_istore_4 hC rfl dX6_sheet_83 (q := 85) rfl ?_
            refine v_same ?_ rfl rfl (main Q1 hQ1 rfl (Or.inl h8) (Int32.not_lt.mpr h37) h50)
            rw [zrK_0, if_pos h73]
            rfl
        · refine v_aload_n hC rfl dX6_sheet_53 (q := 54) rfl ?_
          refine v_ldc hC wk_X6_35 dX6_sheet_54 (q := 56) rfl ?_
          refine v_Vi hC lkV_X6_37 (c_X6_finds (n := 0) (by decide)) rfl (by decide) (k := 47) (by decide) hp_47 rfl rfl (Nat.le_of_ble_eq_true rfl) dX6_sheet_56 (q := 59) rfl ?_
          rintro _ _ ⟨rfl, rfl⟩
          refine hR _ _ _ _ ?_ dX6_sheet_59
          have hb : b = 0 ∨ b = 8 ∨ b = 16 ∨ b = 64 := Or.inl h8
          have hn : ¬ n < 0 := Int32.not_lt.mpr h37
          have hg : ¬ ((b = 0 ∨ b = 8 ∨ b = 16 ∨ b = 64) ∧ ¬ n < 0 ∧ n ≤ 40) := fun z => h50 z.2.2
          refine ⟨?_, ?_⟩
          · simp only [S_sheet, hix _ hQ1, if_pos hb, if_neg hn, if_neg h50, ansI]
          · simp only [S_sheet, gSh, hix _ hQ1, if_pos hb, if_neg hn, if_neg h50, if_neg hg, fnR]
      · refine v_aload_n hC rfl dX6_sheet_40 (q := 41) rfl ?_
        refine v_ldc hC wk_X6_205 dX6_sheet_41 (q := 43) rfl ?_
        refine v_Vi hC lkV_X6_37 (c_X6_finds (n := 6) (by decide)) rfl (by decide) (k := 47) (by decide) hp_47 rfl rfl (Nat.le_of_ble_eq_true rfl) dX6_sheet_43 (q := 46) rfl ?_
        rintro _ _ ⟨rfl, rfl⟩
        refine hR _ _ _ _ ?_ dX6_sheet_46
        have hb : b = 0 ∨ b = 8 ∨ b = 16 ∨ b = 64 := Or.inl h8
        have hn := Int32.not_le.mp h37
        have hg : ¬ ((b = 0 ∨ b = 8 ∨ b = 16 ∨ b = 64) ∧ ¬ n < 0 ∧ n ≤ 40) := fun z => z.2.1 hn
        refine ⟨?_, ?_⟩
        · simp only [S_sheet, hix _ hQ1, if_pos hb, if_pos hn, ansI]
        · simp only [S_sheet, gSh, hix _ hQ1, if_pos hb, if_pos hn, if_neg hg, fnR]
    · refine v_iload_n hC rfl dX6_sheet_11 (q := 12) rfl ?_
      refine v_bipush hC (v := 8) rfl dX6_sheet_12 (q := 14) rfl ?_
      refine v_icmp_eq hC dX6_sheet_14 (t := 36) rfl (q := 17) rfl (fun h14 => ?_) (fun h14 => ?_)
      · refine v_iload_n hC rfl dX6_sheet_36 (q := 37) rfl ?_
        refine v_if_ge hC dX6_sheet_37 (t := 47) rfl (q := 40) rfl (fun h37 => ?_) (fun h37 => ?_)
        · refine v_iload_n hC rfl dX6_sheet_47 (q := 48) rfl ?_
          refine v_bipush hC (v := 40) rfl dX6_sheet_48 (q := 50) rfl ?_
          refine v_icmp_le hC dX6_sheet_50 (t := 60) rfl (q := 53) rfl (fun h50 => ?_) (fun h50 => ?_)
          · refine v_aload_n hC rfl dX6_sheet_60 (q := 61) rfl ?_
            refine v_get hC fl_X6_25 (k := 47) (by decide) hp_47 rfl dX6_sheet_61 (q := 64) rfl ?_
            refine v_iload_n hC rfl dX6_sheet_64 (q := 65) rfl ?_
            refine v_iload_n hC rfl dX6_sheet_65 (q := 66) rfl ?_
            refine v_iast hC (k := 53) (by decide) hp_53 (ix4' (by omega)) (j := Q1) (nI_clamp (by omega)) (hpr_5 _) dX6_sheet_66 (q := 67) rfl ?_
            refine v_aload_n hC rfl dX6_sheet_67 (q := 68) rfl ?_
            refine v_get hC fl_X6_28 (k := 47) (by decide) hp_47 rfl dX6_sheet_68 (q := 71) rfl ?_
            refine v_iload_n hC rfl dX6_sheet_71 (q := 72) rfl ?_
            refine v_iload_n hC rfl dX6_sheet_72 (q := 73) rfl ?_
            refine v_if_ne hC dX6_sheet_73 (t := 80) rfl (q := 76) rfl (fun h73 => ?_) (fun h73 => ?_)
            · refine v_iload_n hC rfl dX6_sheet_80 (q := 81) rfl ?_
              refine v_iast hC (k := 54) (by decide) hp_54 (ix4' (by omega)) (j := Q1) (nI_clamp (by omega)) (hpr_6 _) dX6_sheet_81 (q := 82) rfl ?_
              refine v_iconst hC (v := 0) rfl dX6_sheet_82 (q := 83) rfl ?_
              refine v_istore_4 hC rfl dX6_sheet_83 (q := 85) rfl ?_
              refine v_same ?_ rfl rfl (main Q1 hQ1 rfl (Or.inr (Or.inl h14)) (Int32.not_lt.mpr h37) h50)
              rw [zrK_0, if_neg h73]
              rfl
            · refine v_iconst hC (v := 0) rfl dX6_sheet_76 (q := 77) rfl ?_
              refine v_goto hC dX6_sheet_77 (t := 81) rfl ?_
              refine v_iast hC (k := 54) (by decide) hp_54 (ix4' (by omega)) (j := Q1) (nI_clamp (by omega)) (hpr_6 _) dX6_sheet_81 (q := 82) rfl ?_
              refine v_iconst hC (v := 0) rfl dX6_sheet_82 (q := 83) rfl ?_
              refine v_istore_4 hC rfl dX6_sheet_83 (q := 85) rfl ?_
              refine v_same ?_ rfl rfl (main Q1 hQ1 rfl (Or.inr (Or.inl h14)) (Int32.not_lt.mpr h37) h50)
              rw [zrK_0, if_pos h73]
              rfl
          · refine v_aload_n hC rfl dX6_sheet_53 (q := 54) rfl ?_
            refine v_ldc hC wk_X6_35 dX6_sheet_54 (q := 56) rfl ?_
            refine v_Vi hC lkV_X6_37 (c_X6_finds (n := 0) (by decide)) rfl (by decide) (k := 47) (by decide) hp_47 rfl rfl (Nat.le_of_ble_eq_true rfl) dX6_sheet_56 (q := 59) rfl ?_
            rintro _ _ ⟨rfl, rfl⟩
            refine hR _ _ _ _ ?_ dX6_sheet_59
            have hb : b = 0 ∨ b = 8 ∨ b = 16 ∨ b = 64 := Or.inr (Or.inl h14)
            have hn : ¬ n < 0 := Int32.not_lt.mpr h37
            have hg : ¬ ((b = 0 ∨ b = 8 ∨ b = 16 ∨ b = 64) ∧ ¬ n < 0 ∧ n ≤ 40) := fun z => h50 z.2.2
            refine ⟨?_, ?_⟩
            · simp only [S_sheet, hix _ hQ1, if_pos hb, if_neg hn, if_neg h50, ansI]
            · simp only [S_sheet, gSh, hix _ hQ1, if_pos hb, if_neg hn, if_neg h50, if_neg hg, fnR]
        · refine v_aload_n hC rfl dX6_sheet_40 (q := 41) rfl ?_
          refine v_ldc hC wk_X6_205 dX6_sheet_41 (q := 43) rfl ?_
          refine v_Vi hC lkV_X6_37 (c_X6_finds (n := 6) (by decide)) rfl (by decide) (k := 47) (by decide) hp_47 rfl rfl (Nat.le_of_ble_eq_true rfl) dX6_sheet_43 (q := 46) rfl ?_
          rintro _ _ ⟨rfl, rfl⟩
          refine hR _ _ _ _ ?_ dX6_sheet_46
          have hb : b = 0 ∨ b = 8 ∨ b = 16 ∨ b = 64 := Or.inr (Or.inl h14)
          have hn := Int32.not_le.mp h37
          have hg : ¬ ((b = 0 ∨ b = 8 ∨ b = 16 ∨ b = 64) ∧ ¬ n < 0 ∧ n ≤ 40) := fun z => z.2.1 hn
          refine ⟨?_, ?_⟩
          · simp only [S_sheet, hix _ hQ1, if_pos hb, if_pos hn, ansI]
          · simp only [S_sheet, gSh, hix _ hQ1, if_pos hb, if_pos hn, if_neg hg, fnR]
      · refine v_iload_n hC rfl dX6_sheet_17 (q := 18) rfl ?_
        refine v_bipush hC (v := 16) rfl dX6_sheet_18 (q := 20) rfl ?_
        refine v_icmp_eq hC dX6_sheet_20 (t := 36) rfl (q := 23) rfl (fun h20 => ?_) (fun h20 => ?_)
        · refine v_iload_n hC rfl dX6_sheet_36 (q := 37) rfl ?_
          refine v_if_ge hC dX6_sheet_37 (t := 47) rfl (q := 40) rfl (fun h37 => ?_) (fun h37 => ?_)
          · refine v_iload_n hC rfl dX6_sheet_47 (q := 48) rfl ?_
            refine v_bipush hC (v := 40) rfl dX6_sheet_48 (q := 50) rfl ?_
            refine v_icmp_le hC dX6_sheet_50 (t := 60) rfl (q := 53) rfl (fun h50 => ?_) (fun h50 => ?_)
            · refine v_aload_n hC rfl dX6_sheet_60 (q := 61) rfl ?_
              refine v_get hC fl_X6_25 (k := 47) (by decide) hp_47 rfl dX6_sheet_61 (q := 64) rfl ?_
              refine v_iload_n hC rfl dX6_sheet_64 (q := 65) rfl ?_
              refine v_iload_n hC rfl dX6_sheet_65 (q := 66) rfl ?_
              refine v_iast hC (k := 53) (by decide) hp_53 (ix4' (by omega)) (j := Q1) (nI_clamp (by omega)) (hpr_5 _) dX6_sheet_66 (q := 67) rfl ?_
              refine v_aload_n hC rfl dX6_sheet_67 (q := 68) rfl ?_
              refine v_get hC fl_X6_28 (k := 47) (by decide) hp_47 rfl dX6_sheet_68 (q := 71) rfl ?_
              refine v_iload_n hC rfl dX6_sheet_71 (q := 72) rfl ?_
              refine v_iload_n hC rfl dX6_sheet_72 (q := 73) rfl ?_
              refine v_if_ne hC dX6_sheet_73 (t := 80) rfl (q := 76) rfl (fun h73 => ?_) (fun h73 => ?_)
              · refine v_iload_n hC rfl dX6_sheet_80 (q := 81) rfl ?_
                refine v_iast hC (k := 54) (by decide) hp_54 (ix4' (by omega)) (j := Q1) (nI_clamp (by omega)) (hpr_6 _) dX6_sheet_81 (q := 82) rfl ?_
                refine v_iconst hC (v := 0) rfl dX6_sheet_82 (q := 83) rfl ?_
                refine v_istore_4 hC rfl dX6_sheet_83 (q := 85) rfl ?_
                refine v_same ?_ rfl rfl (main Q1 hQ1 rfl (Or.inr (Or.inr (Or.inl h20))) (Int32.not_lt.mpr h37) h50)
                rw [zrK_0, if_neg h73]
                rfl
              · refine v_iconst hC (v := 0) rfl dX6_sheet_76 (q := 77) rfl ?_
                refine v_goto hC dX6_sheet_77 (t := 81) rfl ?_
                refine v_iast hC (k := 54) (by decide) hp_54 (ix4' (by omega)) (j := Q1) (nI_clamp (by omega)) (hpr_6 _) dX6_sheet_81 (q := 82) rfl ?_
                refine v_iconst hC (v := 0) rfl dX6_sheet_82 (q := 83) rfl ?_
                refine v_istore_4 hC rfl dX6_sheet_83 (q := 85) rfl ?_
                refine v_same ?_ rfl rfl (main Q1 hQ1 rfl (Or.inr (Or.inr (Or.inl h20))) (Int32.not_lt.mpr h37) h50)
                rw [zrK_0, if_pos h73]
                rfl
            · refine v_aload_n hC rfl dX6_sheet_53 (q := 54) rfl ?_
              refine v_ldc hC wk_X6_35 dX6_sheet_54 (q := 56) rfl ?_
              refine v_Vi hC lkV_X6_37 (c_X6_finds (n := 0) (by decide)) rfl (by decide) (k := 47) (by decide) hp_47 rfl rfl (Nat.le_of_ble_eq_true rfl) dX6_sheet_56 (q := 59) rfl ?_
              rintro _ _ ⟨rfl, rfl⟩
              refine hR _ _ _ _ ?_ dX6_sheet_59
              have hb : b = 0 ∨ b = 8 ∨ b = 16 ∨ b = 64 := Or.inr (Or.inr (Or.inl h20))
              have hn : ¬ n < 0 := Int32.not_lt.mpr h37
              have hg : ¬ ((b = 0 ∨ b = 8 ∨ b = 16 ∨ b = 64) ∧ ¬ n < 0 ∧ n ≤ 40) := fun z => h50 z.2.2
              refine ⟨?_, ?_⟩
              · simp only [S_sheet, hix _ hQ1, if_pos hb, if_neg hn, if_neg h50, ansI]
              · simp only [S_sheet, gSh, hix _ hQ1, if_pos hb, if_neg hn, if_neg h50, if_neg hg, fnR]
          · refine v_aload_n hC rfl dX6_sheet_40 (q := 41) rfl ?_
            refine v_ldc hC wk_X6_205 dX6_sheet_41 (q := 43) rfl ?_
            refine v_Vi hC lkV_X6_37 (c_X6_finds (n := 6) (by decide)) rfl (by decide) (k := 47) (by decide) hp_47 rfl rfl (Nat.le_of_ble_eq_true rfl) dX6_sheet_43 (q := 46) rfl ?_
            rintro _ _ ⟨rfl, rfl⟩
            refine hR _ _ _ _ ?_ dX6_sheet_46
            have hb : b = 0 ∨ b = 8 ∨ b = 16 ∨ b = 64 := Or.inr (Or.inr (Or.inl h20))
            have hn := Int32.not_le.mp h37
            have hg : ¬ ((b = 0 ∨ b = 8 ∨ b = 16 ∨ b = 64) ∧ ¬ n < 0 ∧ n ≤ 40) := fun z => z.2.1 hn
            refine ⟨?_, ?_⟩
            · simp only [S_sheet, hix _ hQ1, if_pos hb, if_pos hn, ansI]
            · simp only [S_sheet, gSh, hix _ hQ1, if_pos hb, if_pos hn, if_neg hg, fnR]
        · refine v_iload_n hC rfl dX6_sheet_23 (q := 24) rfl ?_
          refine v_bipush hC (v := 64) rfl dX6_sheet_24 (q := 26) rfl ?_
          refine v_icmp_eq hC dX6_sheet_26 (t := 36) rfl (q := 29) rfl (fun h26 => ?_) (fun h26 => ?_)
          · refine v_iload_n hC rfl dX6_sheet_36 (q := 37) rfl ?_
            refine v_if_ge hC dX6_sheet_37 (t := 47) rfl (q := 40) rfl (fun h37 => ?_) (fun h37 => ?_)
            · refine v_iload_n hC rfl dX6_sheet_47 (q := 48) rfl ?_
              refine v_bipush hC (v := 40) rfl dX6_sheet_48 (q := 50) rfl ?_
              refine v_icmp_le hC dX6_sheet_50 (t := 60) rfl (q := 53) rfl (fun h50 => ?_) (fun h50 => ?_)
              · refine v_aload_n hC rfl dX6_sheet_60 (q := 61) rfl ?_
                refine v_get hC fl_X6_25 (k := 47) (by decide) hp_47 rfl dX6_sheet_61 (q := 64) rfl ?_
                refine v_iload_n hC rfl dX6_sheet_64 (q := 65) rfl ?_
                refine v_iload_n hC rfl dX6_sheet_65 (q := 66) rfl ?_
                refine v_iast hC (k := 53) (by decide) hp_53 (ix4' (by omega)) (j := Q1) (nI_clamp (by omega)) (hpr_5 _) dX6_sheet_66 (q := 67) rfl ?_
                refine v_aload_n hC rfl dX6_sheet_67 (q := 68) rfl ?_
                refine v_get hC fl_X6_28 (k := 47) (by decide) hp_47 rfl dX6_sheet_68 (q := 71) rfl ?_
                refine v_iload_n hC rfl dX6_sheet_71 (q := 72) rfl ?_
                refine v_iload_n hC rfl dX6_sheet_72 (q := 73) rfl ?_
                refine v_if_ne hC dX6_sheet_73 (t := 80) rfl (q := 76) rfl (fun h73 => ?_) (fun h73 => ?_)
                · refine v_iload_n hC rfl dX6_sheet_80 (q := 81) rfl ?_
                  refine v_iast hC (k := 54) (by decide) hp_54 (ix4' (by omega)) (j := Q1) (nI_clamp (by omega)) (hpr_6 _) dX6_sheet_81 (q := 82) rfl ?_
                  refine v_iconst hC (v := 0) rfl dX6_sheet_82 (q := 83) rfl ?_
                  refine v_istore_4 hC rfl dX6_sheet_83 (q := 85) rfl ?_
                  refine v_same ?_ rfl rfl (main Q1 hQ1 rfl (Or.inr (Or.inr (Or.inr h26))) (Int32.not_lt.mpr h37) h50)
                  rw [zrK_0, if_neg h73]
                  rfl
                · refine v_iconst hC (v := 0) rfl dX6_sheet_76 (q := 77) rfl ?_
                  refine v_goto hC dX6_sheet_77 (t := 81) rfl ?_
                  refine v_iast hC (k := 54) (by decide) hp_54 (ix4' (by omega)) (j := Q1) (nI_clamp (by omega)) (hpr_6 _) dX6_sheet_81 (q := 82) rfl ?_
                  refine v_iconst hC (v := 0) rfl dX6_sheet_82 (q := 83) rfl ?_
                  refine v_istore_4 hC rfl dX6_sheet_83 (q := 85) rfl ?_
                  refine v_same ?_ rfl rfl (main Q1 hQ1 rfl (Or.inr (Or.inr (Or.inr h26))) (Int32.not_lt.mpr h37) h50)
                  rw [zrK_0, if_pos h73]
                  rfl
              · refine v_aload_n hC rfl dX6_sheet_53 (q := 54) rfl ?_
                refine v_ldc hC wk_X6_35 dX6_sheet_54 (q := 56) rfl ?_
                refine v_Vi hC lkV_X6_37 (c_X6_finds (n := 0) (by decide)) rfl (by decide) (k := 47) (by decide) hp_47 rfl rfl (Nat.le_of_ble_eq_true rfl) dX6_sheet_56 (q := 59) rfl ?_
                rintro _ _ ⟨rfl, rfl⟩
                refine hR _ _ _ _ ?_ dX6_sheet_59
                have hb : b = 0 ∨ b = 8 ∨ b = 16 ∨ b = 64 := Or.inr (Or.inr (Or.inr h26))
                have hn : ¬ n < 0 := Int32.not_lt.mpr h37
                have hg : ¬ ((b = 0 ∨ b = 8 ∨ b = 16 ∨ b = 64) ∧ ¬ n < 0 ∧ n ≤ 40) := fun z => h50 z.2.2
                refine ⟨?_, ?_⟩
                · simp only [S_sheet, hix _ hQ1, if_pos hb, if_neg hn, if_neg h50, ansI]
                · simp only [S_sheet, gSh, hix _ hQ1, if_pos hb, if_neg hn, if_neg h50, if_neg hg, fnR]
            · refine v_aload_n hC rfl dX6_sheet_40 (q := 41) rfl ?_
              refine v_ldc hC wk_X6_205 dX6_sheet_41 (q := 43) rfl ?_
              refine v_Vi hC lkV_X6_37 (c_X6_finds (n := 6) (by decide)) rfl (by decide) (k := 47) (by decide) hp_47 rfl rfl (Nat.le_of_ble_eq_true rfl) dX6_sheet_43 (q := 46) rfl ?_
              rintro _ _ ⟨rfl, rfl⟩
              refine hR _ _ _ _ ?_ dX6_sheet_46
              have hb : b = 0 ∨ b = 8 ∨ b = 16 ∨ b = 64 := Or.inr (Or.inr (Or.inr h26))
              have hn := Int32.not_le.mp h37
              have hg : ¬ ((b = 0 ∨ b = 8 ∨ b = 16 ∨ b = 64) ∧ ¬ n < 0 ∧ n ≤ 40) := fun z => z.2.1 hn
              refine ⟨?_, ?_⟩
              · simp only [S_sheet, hix _ hQ1, if_pos hb, if_pos hn, ansI]
              · simp only [S_sheet, gSh, hix _ hQ1, if_pos hb, if_pos hn, if_neg hg, fnR]
          · refine v_aload_n hC rfl dX6_sheet_29 (q := 30) rfl ?_
            refine v_ldc hC wk_X6_35 dX6_sheet_30 (q := 32) rfl ?_
            refine v_Vi hC lkV_X6_37 (c_X6_finds (n := 0) (by decide)) rfl (by decide) (k := 47) (by decide) hp_47 rfl rfl (Nat.le_of_ble_eq_true rfl) dX6_sheet_32 (q := 35) rfl ?_
            rintro _ _ ⟨rfl, rfl⟩
            refine hR _ _ _ _ ?_ dX6_sheet_35
            have hb : ¬ (b = 0 ∨ b = 8 ∨ b = 16 ∨ b = 64) := by rintro (z | z | z | z) <;> contradiction
            have hg : ¬ ((b = 0 ∨ b = 8 ∨ b = 16 ∨ b = 64) ∧ ¬ n < 0 ∧ n ≤ 40) := fun z => hb z.1
            refine ⟨?_, ?_⟩
            · simp only [S_sheet, hix _ hQ1, if_neg hb, ansI]
            · simp only [S_sheet, gSh, hix _ hQ1, if_neg hb, if_neg hg, fnR]
  · refine v_if_eq hC dX6_sheet_4 (t := 29) rfl (q := 7) rfl (fun _ => ?_) (fun h => absurd h (by decide))
    refine v_aload_n hC rfl dX6_sheet_29 (q := 30) rfl ?_
    refine v_ldc hC wk_X6_35 dX6_sheet_30 (q := 32) rfl ?_
    refine v_Vi hC lkV_X6_37 (c_X6_finds (n := 0) (by decide)) rfl (by decide) (k := 47) (by decide) hp_47 rfl rfl (Nat.le_of_ble_eq_true rfl) dX6_sheet_32 (q := 35) rfl ?_
    rintro _ _ ⟨rfl, rfl⟩
    refine hR _ _ _ _ ?_ dX6_sheet_35
    refine ⟨?_, ?_⟩
    · simp only [S_sheet, hno _ hc1, ansI]
    · simp only [S_sheet, gSh, hno _ hc1, fnR]

def S_write (bt sz : Nat → Int32) (cq : Nat → Nat → Int64) (s i : Int32) : AnL := match nT bt s with
  | .inl k => .inl k
  | .inr Q => if 0 ≤ i ∧ i ≤ sz Q - 1 then .inr (cq Q i.toNatClampNeg) else .inl 0
def gWr (bt sz : Nat → Int32) (s i : Int32) : Option (Nat × Nat) := match nT bt s with
  | .inl _ => none
  | .inr Q => if 0 ≤ i ∧ i ≤ sz Q - 1 then some (Q, i.toNatClampNeg) else none
theorem n40 : ∀ n : Fin 41, (nI n.val - 1).toInt = (n.val : Int) - 1 := by decide +kernel
theorem isK_iff {n : Nat} (h8 : n ≤ 40) {p : Int32} : (0 ≤ p ∧ p ≤ nI n - 1) ↔ ∃ P, P < n ∧ p = nI P := by
  rw [fa_le, fa_le, show (nI n - 1).toInt = (n : Int) - 1 from n40 ⟨n, by omega⟩]
  constructor
  · rintro ⟨h1, h2⟩
    have h1' : 0 ≤ p.toInt := h1
    refine ⟨p.toInt.toNat, by omega, Int32.toInt_inj.mp ?_⟩
    rw [nI_toInt (by omega)]
    omega
  · rintro ⟨P, h1, rfl⟩
    rw [nI_toInt (by omega)]
    constructor
    · show (0 : Int) ≤ _; omega
    · omega
/-- the sizes are no more than 40 -/
def szOK (sz : Nat → Int32) : Prop := ∀ Q, Q < 4 → ∃ z, z ≤ 40 ∧ sz Q = nI z
set_option maxHeartbeats 4000000 in
set_option maxRecDepth 100000 in
theorem c_X6_write {l : Launch} {X : Gx} {S : CS} {i m : Nat → Int32} {r : Nat → Nat → Int32} {c : Nat → Int64} (hZ : szOK (r 6)) {s i_ : Int32} {v : Int64} : Cl l X yX6_write cX6_write 8 (some .long) (rmk 3 64) [.ref (ga X 47), .int s, .int i_, .long v] (hp X S (i, m, r, c)) (fun z g => z = ansL (S_write (r 5) (r 6) (fun q k => c (40 * q + k)) s i_) ∧ g = match gWr (r 5) (r 6) s i_ with
  | none => hp X S (i, m, fnL r (S_write (r 5) (r 6) (fun q k => c (40 * q + k)) s i_), c)
  | some (Q, k) => hp X S (i, m, r, vp_updL c (40 * Q + k) (cutF (r 5 Q) v))) := by
  refine ct_l (own := RX6) (lv := [some (.ref (ga X 47)), some (.int s), some (.int i_), some (.long v), none, none, none, none]) (by decide) rfl (Nat.le_of_ble_eq_true rfl) (Nat.le_of_ble_eq_true rfl) rfl (fun C hC hR => ?_)
  have hix : ∀ Q, Q < 4 → pIx 4 (nI Q) = some Q := fun Q h => pIx_nI h (by decide)
  cases e : nT (r 5) s with
  | inl k =>
    have hk := nT_lt e
    have h0 := fnd_ne ⟨k, hk⟩
    refine v_aload_n hC rfl dX6_write_0 (q := 1) rfl ?_
    refine v_iload_n hC rfl dX6_write_1 (q := 2) rfl ?_
    refine v_Vi hC lkV_X6_207 c_X6_notThere rfl (by decide) (k := 47) (by decide) hp_47 rfl rfl (Nat.le_of_ble_eq_true rfl) dX6_write_2 (q := 5) rfl ?_
    rintro _ _ ⟨rfl, rfl⟩
    rw [e, whyI]
    refine v_istore_5 hC rfl dX6_write_5 (q := 7) rfl ?_
    refine v_iload hC rfl dX6_write_7 (q := 9) rfl ?_
    refine v_if_ne hC dX6_write_9 (t := 33) rfl (q := 12) rfl (fun _ => ?_) (fun h => absurd h h0)
    refine v_iload hC rfl dX6_write_33 (q := 35) rfl ?_
    refine v_if_eq hC dX6_write_35 (t := 46) rfl (q := 38) rfl (fun h => absurd h h0) (fun _ => ?_)
    refine v_aload_n hC rfl dX6_write_38 (q := 39) rfl ?_
    refine v_iload hC rfl dX6_write_39 (q := 41) rfl ?_
    refine v_Vi hC lkV_X6_37 (c_X6_finds hk) rfl (by decide) (k := 47) (by decide) hp_47 rfl rfl (Nat.le_of_ble_eq_true rfl) dX6_write_41 (q := 44) rfl ?_
    rintro _ _ ⟨rfl, rfl⟩
    refine v_i2l hC dX6_write_44 (q := 45) rfl ?_
    refine hR _ _ _ _ ?_ dX6_write_45
    exact ⟨by simp only [S_write, e, ansL], by simp only [S_write, gWr, e, fnL]⟩
  | inr Q =>
    obtain ⟨hQ, rfl, hb⟩ := nT_ok e
    obtain ⟨z, hz, hsz⟩ := hZ Q hQ
    refine v_aload_n hC rfl dX6_write_0 (q := 1) rfl ?_
    refine v_iload_n hC rfl dX6_write_1 (q := 2) rfl ?_
    refine v_Vi hC lkV_X6_207 c_X6_notThere rfl (by decide) (k := 47) (by decide) hp_47 rfl rfl (Nat.le_of_ble_eq_true rfl) dX6_write_2 (q := 5) rfl ?_
    rintro _ _ ⟨rfl, rfl⟩
    rw [e, whyI]
    refine v_istore_5 hC rfl dX6_write_5 (q := 7) rfl ?_
    refine v_iload hC rfl dX6_write_7 (q := 9) rfl ?_
    refine v_if_ne hC dX6_write_9 (t := 33) rfl (q := 12) rfl (fun h => absurd rfl h) (fun _ => ?_)
    refine v_iload_n hC rfl dX6_write_12 (q := 13) rfl ?_
    refine v_i2l hC dX6_write_13 (q := 14) rfl ?_
    refine v_iconst hC (v := 0) rfl dX6_write_14 (q := 15) rfl ?_
    refine v_aload_n hC rfl dX6_write_15 (q := 16) rfl ?_
    refine v_get hC fl_X6_28 (k := 47) (by decide) hp_47 rfl dX6_write_16 (q := 19) rfl ?_
    refine v_iload_n hC rfl dX6_write_19 (q := 20) rfl ?_
    refine v_iald hC (k := 54) (by decide) hp_54 (ix4' (by omega)) (j := Q) (nI_clamp (by omega)) dX6_write_20 (q := 21) rfl ?_
    refine v_iconst hC (v := 1) rfl dX6_write_21 (q := 22) rfl ?_
    refine v_isub hC dX6_write_22 (q := 23) rfl ?_
    refine v_Si hC lkS_X6_41 c_X6_in rfl (by decide) rfl (Nat.le_of_ble_eq_true rfl) dX6_write_23 (q := 26) rfl ?_
    rintro _ _ ⟨⟨hc23, rfl⟩ | ⟨hc23, rfl⟩, rfl⟩
    · refine v_if_ne hC dX6_write_26 (t := 33) rfl (q := 29) rfl (fun _ => ?_) (fun h => absurd h (by decide))
      refine v_iload hC rfl dX6_write_33 (q := 35) rfl ?_
      refine v_if_eq hC dX6_write_35 (t := 46) rfl (q := 38) rfl (fun _ => ?_) (fun h => absurd rfl h)
      rw [hsz, isK_iff hz] at hc23
      obtain ⟨J, hJ, hj⟩ := hc23
      subst hj
      have hcl : (nI J).toNatClampNeg = J := nI_clamp (by omega)
      have hcJ : 0 ≤ nI J ∧ nI J ≤ r 6 Q - 1 := by rw [hsz, isK_iff hz]; exact ⟨J, hJ, rfl⟩
      refine v_aload_n hC rfl dX6_write_46 (q := 47) rfl ?_
      refine v_get hC fl_X6_31 (k := 47) (by decide) hp_47 rfl dX6_write_47 (q := 50) rfl ?_
      refine v_bipush hC (v := 40) rfl dX6_write_50 (q := 52) rfl ?_
      refine v_iload_n hC rfl dX6_write_52 (q := 53) rfl ?_
      refine v_imul hC dX6_write_53 (q := 54) rfl ?_
      refine v_iload_n hC rfl dX6_write_54 (q := 55) rfl ?_
      refine v_iadd hC dX6_write_55 (q := 56) rfl ?_
      refine v_lald hC (k := 55) (by decide) hp_55 (ixC hQ (by omega)).1 (ixC hQ (by omega)).2 dX6_write_56 (q := 57) rfl ?_
      refine v_lstore_6 hC rfl dX6_write_57 (q := 59) rfl ?_
      refine v_aload_n hC rfl dX6_write_59 (q := 60) rfl ?_
      refine v_get hC fl_X6_31 (k := 47) (by decide) hp_47 rfl dX6_write_60 (q := 63) rfl ?_
      refine v_bipush hC (v := 40) rfl dX6_write_63 (q := 65) rfl ?_
      refine v_iload_n hC rfl dX6_write_65 (q := 66) rfl ?_
      refine v_imul hC dX6_write_66 (q := 67) rfl ?_
      refine v_iload_n hC rfl dX6_write_67 (q := 68) rfl ?_
      refine v_iadd hC dX6_write_68 (q := 69) rfl ?_
      refine v_aload_n hC rfl dX6_write_69 (q := 70) rfl ?_
      refine v_get hC fl_X6_25 (k := 47) (by decide) hp_47 rfl dX6_write_70 (q := 73) rfl ?_
      refine v_iload_n hC rfl dX6_write_73 (q := 74) rfl ?_
      refine v_iald hC (k := 53) (by decide) hp_53 (ix4' (by omega)) (j := Q) (nI_clamp (by omega)) dX6_write_74 (q := 75) rfl ?_
      refine v_lload_n hC rfl dX6_write_75 (q := 76) rfl ?_
      refine v_Sl hC lkS_X6_210 c_X6_cutTo rfl (by decide) rfl (Nat.le_of_ble_eq_true rfl) dX6_write_76 (q := 79) rfl ?_
      rintro _ _ ⟨rfl, rfl⟩
      refine v_last hC (k := 55) (by decide) hp_55 (ixC hQ (by omega)).1 (ixC hQ (by omega)).2 (hpc _) dX6_write_79 (q := 80) rfl ?_
      refine v_lload hC rfl dX6_write_80 (q := 82) rfl ?_
      refine hR _ _ _ _ ?_ dX6_write_82
      exact ⟨by simp only [S_write, e, if_pos hcJ, hcl, ansL], by simp only [S_write, gWr, e, if_pos hcJ, hcl, fnL]⟩
    · refine v_if_ne hC dX6_write_26 (t := 33) rfl (q := 29) rfl (fun h => absurd h (by decide)) (fun _ => ?_)
      refine v_ldc hC wk_X6_35 dX6_write_29 (q := 31) rfl ?_
      refine v_istore_5 hC rfl dX6_write_31 (q := 33) rfl ?_
      refine v_iload hC rfl dX6_write_33 (q := 35) rfl ?_
      refine v_if_eq hC dX6_write_35 (t := 46) rfl (q := 38) rfl (fun h => absurd h (by decide)) (fun _ => ?_)
      refine v_aload_n hC rfl dX6_write_38 (q := 39) rfl ?_
      refine v_iload hC rfl dX6_write_39 (q := 41) rfl ?_
      refine v_Vi hC lkV_X6_37 (c_X6_finds (n := 0) (by decide)) rfl (by decide) (k := 47) (by decide) hp_47 rfl rfl (Nat.le_of_ble_eq_true rfl) dX6_write_41 (q := 44) rfl ?_
      rintro _ _ ⟨rfl, rfl⟩
      refine v_i2l hC dX6_write_44 (q := 45) rfl ?_
      refine hR _ _ _ _ ?_ dX6_write_45
      exact ⟨by simp only [S_write, e, if_neg hc23, ansL], by simp only [S_write, gWr, e, if_neg hc23, fnL]⟩

set_option maxHeartbeats 4000000 in
set_option maxRecDepth 100000 in
theorem c_X6_notAsked {l : Launch} {X : Gx} {S : CS} {i m : Nat → Int32} {r : Nat → Nat → Int32} {c : Nat → Int64} {n : Nat} (hN : m 1 = nI n) (h8 : n ≤ 8) {s p : Int32} : Ci l X yX6_notAsked cX6_notAsked 4 (some .int) (rmk 3 64) [.ref (ga X 47), .int s, .int p] (hp X S (i, m, r, c)) (fun z g => z = whyA (nA (r 5) n s p) ∧ g = hp X S (i, m, r, c)) := by
  refine ct_i (own := RX6) (lv := [some (.ref (ga X 47)), some (.int s), some (.int p), none]) (by decide) rfl (Nat.le_of_ble_eq_true rfl) (Nat.le_of_ble_eq_true rfl) rfl (fun C hC hR => ?_)
  cases e : nT (r 5) s with
  | inl k =>
    have hk := nT_lt e
    have h0 := fnd_ne ⟨k, hk⟩
    refine v_aload_n hC rfl dX6_notAsked_0 (q := 1) rfl ?_
    refine v_iload_n hC rfl dX6_notAsked_1 (q := 2) rfl ?_
    refine v_Vi hC lkV_X6_207 c_X6_notThere rfl (by decide) (k := 47) (by decide) hp_47 rfl rfl (Nat.le_of_ble_eq_true rfl) dX6_notAsked_2 (q := 5) rfl ?_
    rintro _ _ ⟨rfl, rfl⟩
    rw [e, whyI]
    refine v_istore_3 hC rfl dX6_notAsked_5 (q := 6) rfl ?_
    refine v_iload_n hC rfl dX6_notAsked_6 (q := 7) rfl ?_
    refine v_if_ne hC dX6_notAsked_7 (t := 23) rfl (q := 10) rfl (fun _ => ?_) (fun h => absurd h h0)
    refine v_iload_n hC rfl dX6_notAsked_23 (q := 24) rfl ?_
    refine hR _ _ _ _ ?_ dX6_notAsked_24
    exact ⟨by simp only [nA, e, whyA], rfl⟩
  | inr Q =>
    refine v_aload_n hC rfl dX6_notAsked_0 (q := 1) rfl ?_
    refine v_iload_n hC rfl dX6_notAsked_1 (q := 2) rfl ?_
    refine v_Vi hC lkV_X6_207 c_X6_notThere rfl (by decide) (k := 47) (by decide) hp_47 rfl rfl (Nat.le_of_ble_eq_true rfl) dX6_notAsked_2 (q := 5) rfl ?_
    rintro _ _ ⟨rfl, rfl⟩
    rw [e, whyI]
    refine v_istore_3 hC rfl dX6_notAsked_5 (q := 6) rfl ?_
    refine v_iload_n hC rfl dX6_notAsked_6 (q := 7) rfl ?_
    refine v_if_ne hC dX6_notAsked_7 (t := 23) rfl (q := 10) rfl (fun h => absurd rfl h) (fun _ => ?_)
    refine v_aload_n hC rfl dX6_notAsked_10 (q := 11) rfl ?_
    refine v_iload_n hC rfl dX6_notAsked_11 (q := 12) rfl ?_
    refine v_Vi hC lkV_X6_45 (c_X6_isPerson hN h8) rfl (by decide) (k := 47) (by decide) hp_47 rfl rfl (Nat.le_of_ble_eq_true rfl) dX6_notAsked_12 (q := 15) rfl ?_
    rintro _ _ ⟨⟨⟨P12, hP12, rfl⟩, rfl⟩ | ⟨hc12, rfl⟩, rfl⟩
    · refine v_if_ne hC dX6_notAsked_15 (t := 23) rfl (q := 18) rfl (fun _ => ?_) (fun h => absurd h (by decide))
      refine v_iload_n hC rfl dX6_notAsked_23 (q := 24) rfl ?_
      refine hR _ _ _ _ ?_ dX6_notAsked_24
      exact ⟨by simp only [nA, e, pIx_nI hP12 h8, whyA], rfl⟩
    · refine v_if_ne hC dX6_notAsked_15 (t := 23) rfl (q := 18) rfl (fun h => absurd h (by decide)) (fun _ => ?_)
      refine v_ldc hC wk_X6_35 dX6_notAsked_18 (q := 20) rfl ?_
      refine v_goto hC dX6_notAsked_20 (t := 24) rfl ?_
      refine hR _ _ _ _ ?_ dX6_notAsked_24
      exact ⟨by simp only [nA, e, pIx_no h8 hc12, whyA]; rfl, rfl⟩

def laK (cq : Nat → Int64) (k : Nat) : Bool := decide ((0 : Int32).toInt64 ≤ cq k ∧ cq k ≤ (99 : Int32).toInt64)
def laM (cq : Nat → Int64) (m : Nat → Int32) : Nat → Nat → Int32
  | 0 => m
  | k + 1 => if laK cq k then pu (laM cq m k) k 1 (cq k).toInt32 else laM cq m k
def laN (cq : Nat → Int64) : Nat → Nat
  | 0 => 0
  | k + 1 => if laK cq k then laN cq k + 1 else laN cq k
theorem laM_1 {cq : Nat → Int64} {m : Nat → Int32} : ∀ k, laM cq m k 1 = m 1
  | 0 => rfl
  | k + 1 => by
    rw [laM]
    split
    · rw [pu_1, laM_1 k]
    · exact laM_1 k
def S_lays (bt sz : Nat → Int32) (cq : Nat → Nat → Int64) (n : Nat) (s : Int32) : An := match nT bt s with
  | .inl k => .inl k
  | .inr Q => .inr (nI (laN (cq Q) (min (sz Q).toNatClampNeg n)))
def M_lays (bt sz : Nat → Int32) (cq : Nat → Nat → Int64) (n : Nat) (m : Nat → Int32) (s : Int32) : Nat → Int32 := match nT bt s with
  | .inl _ => m
  | .inr Q => laM (cq Q) m (min (sz Q).toNatClampNeg n)
set_option maxHeartbeats 4000000 in
set_option maxRecDepth 100000 in
theorem c_X6_lays {l : Launch} {X : Gx} {S : CS} {i m : Nat → Int32} {r : Nat → Nat → Int32} {c : Nat → Int64} {n : Nat} (hN : m 1 = nI n) (h8 : n ≤ 8) (hZ : szOK (r 6)) {s : Int32} : Ci l X yX6_lays cX6_lays 5 (some .int) (rmk 3 64) [.ref (ga X 47), .int s] (hp X S (i, m, r, c)) (fun z g => z = ansI (S_lays (r 5) (r 6) (fun q k => c (40 * q + k)) n s) ∧ g = hp X S (i, M_lays (r 5) (r 6) (fun q k => c (40 * q + k)) n m s, fnR r (S_lays (r 5) (r 6) (fun q k => c (40 * q + k)) n s), c)) := by
  refine ct_i (own := RX6) (lv := [some (.ref (ga X 47)), some (.int s), none, none, none]) (by decide) rfl (Nat.le_of_ble_eq_true rfl) (Nat.le_of_ble_eq_true rfl) rfl (fun C hC hR => ?_)
  cases e : nT (r 5) s with
  | inl k =>
    have hk := nT_lt e
    have h0 := fnd_ne ⟨k, hk⟩
    refine v_aload_n hC rfl dX6_lays_0 (q := 1) rfl ?_
    refine v_iload_n hC rfl dX6_lays_1 (q := 2) rfl ?_
    refine v_Vi hC lkV_X6_207 c_X6_notThere rfl (by decide) (k := 47) (by decide) hp_47 rfl rfl (Nat.le_of_ble_eq_true rfl) dX6_lays_2 (q := 5) rfl ?_
    rintro _ _ ⟨rfl, rfl⟩
    rw [e, whyI]
    refine v_istore_2 hC rfl dX6_lays_5 (q := 6) rfl ?_
    refine v_iload_n hC rfl dX6_lays_6 (q := 7) rfl ?_
    refine v_if_eq hC dX6_lays_7 (t := 16) rfl (q := 10) rfl (fun h => absurd h h0) (fun _ => ?_)
    refine v_aload_n hC rfl dX6_lays_10 (q := 11) rfl ?_
    refine v_iload_n hC rfl dX6_lays_11 (q := 12) rfl ?_
    refine v_Vi hC lkV_X6_37 (c_X6_finds hk) rfl (by decide) (k := 47) (by decide) hp_47 rfl rfl (Nat.le_of_ble_eq_true rfl) dX6_lays_12 (q := 15) rfl ?_
    rintro _ _ ⟨rfl, rfl⟩
    refine hR _ _ _ _ ?_ dX6_lays_15
    exact ⟨by simp only [S_lays, e, ansI], by simp only [S_lays, M_lays, e, fnR]⟩
  | inr Q =>
    obtain ⟨hQ, rfl, hb⟩ := nT_ok e
    obtain ⟨z, hz, hsz⟩ := hZ Q hQ
    have hzc : (r 6 Q).toNatClampNeg = z := by rw [hsz]; exact nI_clamp (by omega)
    have e1 : ∀ j, laM (fun k => c (40 * Q + k)) m j 1 = nI n := fun j => (laM_1 j).trans hN
    have loop : ∀ j, j ≤ min z n → V l X (rmk 3 64) C (hp X S (i, laM (fun k => c (40 * Q + k)) m j, r, c)) 21 [some (.ref (ga X 47)), some (.int (nI Q)), some (.int 0), some (.int (nI (laN (fun k => c (40 * Q + k)) j))), some (.int (nI j))] [] := by
      refine v_up (min z n) ?_ ?_
      · by_cases hzn : z ≤ n
        · rw [Nat.min_eq_left hzn]
          refine v_iload hC rfl dX6_lays_21 (q := 23) rfl ?_
          refine v_aload_n hC rfl dX6_lays_23 (q := 24) rfl ?_
          refine v_get hC fl_X6_28 (k := 47) (by decide) hp_47 rfl dX6_lays_24 (q := 27) rfl ?_
          refine v_iload_n hC rfl dX6_lays_27 (q := 28) rfl ?_
          refine v_iald hC (k := 54) (by decide) hp_54 (ix4' (by omega)) (j := Q) (nI_clamp (by omega)) dX6_lays_28 (q := 29) rfl ?_
          refine v_icmp_ge hC dX6_lays_29 (t := 93) rfl (q := 32) rfl (fun _ => ?_) (fun h => absurd (by rw [hsz]; exact Int32.le_refl _) h)
          refine v_iload_n hC rfl dX6_lays_93 (q := 94) rfl ?_
          refine hR _ _ _ _ ?_ dX6_lays_94
          exact ⟨by simp only [S_lays, e, hzc, ansI, Nat.min_eq_left hzn], by simp only [S_lays, M_lays, e, hzc, fnR, Nat.min_eq_left hzn]⟩
        · rw [Nat.min_eq_right (by omega)]
          refine v_iload hC rfl dX6_lays_21 (q := 23) rfl ?_
          refine v_aload_n hC rfl dX6_lays_23 (q := 24) rfl ?_
          refine v_get hC fl_X6_28 (k := 47) (by decide) hp_47 rfl dX6_lays_24 (q := 27) rfl ?_
          refine v_iload_n hC rfl dX6_lays_27 (q := 28) rfl ?_
          refine v_iald hC (k := 54) (by decide) hp_54 (ix4' (by omega)) (j := Q) (nI_clamp (by omega)) dX6_lays_28 (q := 29) rfl ?_
          refine v_icmp_ge hC dX6_lays_29 (t := 93) rfl (q := 32) rfl (fun h => absurd h (by rw [hsz]; exact nI_ge (by omega) (by omega))) (fun _ => ?_)
          refine v_iload hC rfl dX6_lays_32 (q := 34) rfl ?_
          refine v_aload_n hC rfl dX6_lays_34 (q := 35) rfl ?_
          refine v_get hC fl_X6_9 (k := 47) (by decide) hp_47 rfl dX6_lays_35 (q := 38) rfl ?_
          refine v_iconst hC (v := 1) rfl dX6_lays_38 (q := 39) rfl ?_
          refine v_iald hC (k := 48) (by decide) hp_48 (vp_l (by decide)) (j := 1) rfl dX6_lays_39 (q := 40) rfl ?_
          refine v_icmp_ge hC dX6_lays_40 (t := 93) rfl (q := 43) rfl (fun _ => ?_) (fun h => absurd (by rw [e1]; exact Int32.le_refl _) h)
          refine v_iload_n hC rfl dX6_lays_93 (q := 94) rfl ?_
          refine hR _ _ _ _ ?_ dX6_lays_94
          exact ⟨by simp only [S_lays, e, hzc, ansI, Nat.min_eq_right (show n ≤ z by omega)], by simp only [S_lays, M_lays, e, hzc, fnR, Nat.min_eq_right (show n ≤ z by omega)]⟩
      · intro j hj ih
        refine v_iload hC rfl dX6_lays_21 (q := 23) rfl ?_
        refine v_aload_n hC rfl dX6_lays_23 (q := 24) rfl ?_
        refine v_get hC fl_X6_28 (k := 47) (by decide) hp_47 rfl dX6_lays_24 (q := 27) rfl ?_
        refine v_iload_n hC rfl dX6_lays_27 (q := 28) rfl ?_
        refine v_iald hC (k := 54) (by decide) hp_54 (ix4' (by omega)) (j := Q) (nI_clamp (by omega)) dX6_lays_28 (q := 29) rfl ?_
        refine v_icmp_ge hC dX6_lays_29 (t := 93) rfl (q := 32) rfl (fun h => absurd h (by rw [hsz]; exact nI_ge (by omega) (by omega))) (fun _ => ?_)
        refine v_iload hC rfl dX6_lays_32 (q := 34) rfl ?_
        refine v_aload_n hC rfl dX6_lays_34 (q := 35) rfl ?_
        refine v_get hC fl_X6_9 (k := 47) (by decide) hp_47 rfl dX6_lays_35 (q := 38) rfl ?_
        refine v_iconst hC (v := 1) rfl dX6_lays_38 (q := 39) rfl ?_
        refine v_iald hC (k := 48) (by decide) hp_48 (vp_l (by decide)) (j := 1) rfl dX6_lays_39 (q := 40) rfl ?_
        refine v_icmp_ge hC dX6_lays_40 (t := 93) rfl (q := 43) rfl (fun h => absurd h (by rw [e1]; exact nI_ge (by omega) (by omega))) (fun _ => ?_)
        refine v_aload_n hC rfl dX6_lays_43 (q := 44) rfl ?_
        refine v_get hC fl_X6_31 (k := 47) (by decide) hp_47 rfl dX6_lays_44 (q := 47) rfl ?_
        refine v_bipush hC (v := 40) rfl dX6_lays_47 (q := 49) rfl ?_
        refine v_iload_n hC rfl dX6_lays_49 (q := 50) rfl ?_
        refine v_imul hC dX6_lays_50 (q := 51) rfl ?_
        refine v_iload hC rfl dX6_lays_51 (q := 53) rfl ?_
        refine v_iadd hC dX6_lays_53 (q := 54) rfl ?_
        refine v_lald hC (k := 55) (by decide) hp_55 (ixC hQ (by omega)).1 (ixC hQ (by omega)).2 dX6_lays_54 (q := 55) rfl ?_
        refine v_iconst hC (v := 0) rfl dX6_lays_55 (q := 56) rfl ?_
        refine v_bipush hC (v := 99) rfl dX6_lays_56 (q := 58) rfl ?_
        refine v_Si hC lkS_X6_41 c_X6_inL rfl (by decide) rfl (Nat.le_of_ble_eq_true rfl) dX6_lays_58 (q := 61) rfl ?_
        rintro _ _ ⟨⟨hc58, rfl⟩ | ⟨hc58, rfl⟩, rfl⟩
        · refine v_if_eq hC dX6_lays_61 (t := 87) rfl (q := 64) rfl (fun h => absurd h (by decide)) (fun _ => ?_)
          refine v_aload_n hC rfl dX6_lays_64 (q := 65) rfl ?_
          refine v_iload hC rfl dX6_lays_65 (q := 67) rfl ?_
          refine v_iconst hC (v := 1) rfl dX6_lays_67 (q := 68) rfl ?_
          refine v_aload_n hC rfl dX6_lays_68 (q := 69) rfl ?_
          refine v_get hC fl_X6_31 (k := 47) (by decide) hp_47 rfl dX6_lays_69 (q := 72) rfl ?_
          refine v_bipush hC (v := 40) rfl dX6_lays_72 (q := 74) rfl ?_
          refine v_iload_n hC rfl dX6_lays_74 (q := 75) rfl ?_
          refine v_imul hC dX6_lays_75 (q := 76) rfl ?_
          refine v_iload hC rfl dX6_lays_76 (q := 78) rfl ?_
          refine v_iadd hC dX6_lays_78 (q := 79) rfl ?_
          refine v_lald hC (k := 55) (by decide) hp_55 (ixC hQ (by omega)).1 (ixC hQ (by omega)).2 dX6_lays_79 (q := 80) rfl ?_
          refine v_l2i hC dX6_lays_80 (q := 81) rfl ?_
          refine v_Vv hC lkV_X6_63 (c_X6_put (p := j) (w := 1) (by omega) (by decide)) rfl (by decide) (k := 47) (by decide) hp_47 rfl rfl (Nat.le_of_ble_eq_true rfl) dX6_lays_81 (q := 84) rfl ?_
          rintro _ rfl
          refine v_iinc_3 hC (v := _ + 1) rfl rfl dX6_lays_84 (q := 87) rfl ?_
          refine v_iinc_4 hC (v := _ + 1) rfl rfl dX6_lays_87 (q := 90) rfl ?_
          refine v_goto hC dX6_lays_90 (t := 21) rfl ?_
          have hl : laK (fun k => c (40 * Q + k)) j = true := decide_eq_true hc58
          refine v_same ?_ ?_ rfl ih
          · rw [laM, if_pos hl]
          · rw [laN, if_pos hl]; simp [nI_1]
        · refine v_if_eq hC dX6_lays_61 (t := 87) rfl (q := 64) rfl (fun _ => ?_) (fun h => absurd h (by decide))
          refine v_iinc_4 hC (v := _ + 1) rfl rfl dX6_lays_87 (q := 90) rfl ?_
          refine v_goto hC dX6_lays_90 (t := 21) rfl ?_
          have hl : ¬ laK (fun k => c (40 * Q + k)) j = true := fun z => hc58 (of_decide_eq_true z)
          refine v_same ?_ ?_ rfl ih
          · rw [laM, if_neg hl]
          · rw [laN, if_neg hl]; simp [nI_1]
    refine v_aload_n hC rfl dX6_lays_0 (q := 1) rfl ?_
    refine v_iload_n hC rfl dX6_lays_1 (q := 2) rfl ?_
    refine v_Vi hC lkV_X6_207 c_X6_notThere rfl (by decide) (k := 47) (by decide) hp_47 rfl rfl (Nat.le_of_ble_eq_true rfl) dX6_lays_2 (q := 5) rfl ?_
    rintro _ _ ⟨rfl, rfl⟩
    rw [e, whyI]
    refine v_istore_2 hC rfl dX6_lays_5 (q := 6) rfl ?_
    refine v_iload_n hC rfl dX6_lays_6 (q := 7) rfl ?_
    refine v_if_eq hC dX6_lays_7 (t := 16) rfl (q := 10) rfl (fun _ => ?_) (fun h => absurd rfl h)
    refine v_iconst hC (v := 0) rfl dX6_lays_16 (q := 17) rfl ?_
    refine v_istore_3 hC rfl dX6_lays_17 (q := 18) rfl ?_
    refine v_iconst hC (v := 0) rfl dX6_lays_18 (q := 19) rfl ?_
    refine v_istore_4 hC rfl dX6_lays_19 (q := 21) rfl ?_
    exact loop 0 (Nat.zero_le _)
