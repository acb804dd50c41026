theorem up_up {α : Type} {f : Nat → α} {k : Nat} {x y : α} : va_up (va_up f k x) k y = va_up f k y := by
  funext j
  by_cases h : j = k
  · subst h; rw [va_up_self, va_up_self]
  · rw [va_up_ne _ _ h, va_up_ne _ _ h, va_up_ne _ _ h]
theorem updd {v : Nat → Int32} {k : Nat} {x y : Int32} : upd (upd v k x) k y = upd v k y := by
  funext j
  simp only [upd]
  split <;> rfl
def trH (X : Gx) (M : MS) (q nu : Nat → Nat → Int32) (vc : Nat → Nat → Nat → Int32) (sb : Nat → Nat → Int32) (tp by_ : Nat → Int32) (sh : Nat → Nat → Int32) (nn : Nat → Nat → Int64) (fo : Nat → Int32) (kp : Int32) (k : Int32) (w : Nat → Int32) : Hp := ch X M q (va_up nu 2 (upd (nu 2) 8 k)) (va_up vc 2 (va_up (vc 2) 8 w)) sb tp by_ sh nn fo kp
section TR
variable {X : Gx} {M : MS} {q nu : Nat → Nat → Int32} {vc : Nat → Nat → Nat → Int32} {sb : Nat → Nat → Int32} {tp by_ : Nat → Int32} {sh : Nat → Nat → Int32} {nn : Nat → Nat → Int64} {fo : Nat → Int32} {kp : Int32} {k : Int32} {w : Nat → Int32}
theorem tr0 : ch X M q nu vc sb tp by_ sh nn fo kp = trH X M q nu vc sb tp by_ sh nn fo kp (nu 2 8) (vc 2 8) := by rw [trH, up_same rfl, up_id, up_id]
theorem tr_o8 : trH X M q nu vc sb tp by_ sh nn fo kp (k) (w) (4 + 11 * 2 + 8) = oneV k w := by
  rw [trH, ch_o (by decide) (Or.inr ⟨rfl, rfl⟩), va_up_self, va_up_self, va_up_self]
  simp only [upd, if_true]
theorem tr_o0 {p : Nat} (h : p < 8) : trH X M q nu vc sb tp by_ sh nn fo kp (k) (w) (4 + 11 * 0 + p) = oneV (nu 0 p) (vc 0 p) := by
  rw [trH, ch_o (by decide) (Or.inl h)]; rfl
theorem tr_set {k2 : Int32} {w2 : Nat → Int32} : va_up (trH X M q nu vc sb tp by_ sh nn fo kp (k) (w)) (4 + 11 * 2 + 8) (oneV k2 w2) = trH X M q nu vc sb tp by_ sh nn fo kp (k2) (w2) := by
  rw [trH, ch_set (by decide) (Or.inr ⟨rfl, rfl⟩), trH, up_up, up_up, va_up_self, va_up_self, updd, up_up]
theorem tr_f0 (x : Int32) : va_up (trH X M q nu vc sb tp by_ sh nn fo kp (k) (w)) (4 + 11 * 2 + 8) (.inr (0, ([.int k, .int (w 0), .int (w 1), .int (w 2), .int (w 3), .int (w 4), .int (w 5), .int (w 6)] : List Value).set 1 (.int x))) = trH X M q nu vc sb tp by_ sh nn fo kp (k) (upd w 0 x) := tr_set (k2 := k) (w2 := upd w 0 x)
theorem tr_f1 (x : Int32) : va_up (trH X M q nu vc sb tp by_ sh nn fo kp (k) (w)) (4 + 11 * 2 + 8) (.inr (0, ([.int k, .int (w 0), .int (w 1), .int (w 2), .int (w 3), .int (w 4), .int (w 5), .int (w 6)] : List Value).set 2 (.int x))) = trH X M q nu vc sb tp by_ sh nn fo kp (k) (upd w 1 x) := tr_set (k2 := k) (w2 := upd w 1 x)
theorem tr_f2 (x : Int32) : va_up (trH X M q nu vc sb tp by_ sh nn fo kp (k) (w)) (4 + 11 * 2 + 8) (.inr (0, ([.int k, .int (w 0), .int (w 1), .int (w 2), .int (w 3), .int (w 4), .int (w 5), .int (w 6)] : List Value).set 3 (.int x))) = trH X M q nu vc sb tp by_ sh nn fo kp (k) (upd w 2 x) := tr_set (k2 := k) (w2 := upd w 2 x)
theorem tr_f3 (x : Int32) : va_up (trH X M q nu vc sb tp by_ sh nn fo kp (k) (w)) (4 + 11 * 2 + 8) (.inr (0, ([.int k, .int (w 0), .int (w 1), .int (w 2), .int (w 3), .int (w 4), .int (w 5), .int (w 6)] : List Value).set 4 (.int x))) = trH X M q nu vc sb tp by_ sh nn fo kp (k) (upd w 3 x) := tr_set (k2 := k) (w2 := upd w 3 x)
theorem tr_f4 (x : Int32) : va_up (trH X M q nu vc sb tp by_ sh nn fo kp (k) (w)) (4 + 11 * 2 + 8) (.inr (0, ([.int k, .int (w 0), .int (w 1), .int (w 2), .int (w 3), .int (w 4), .int (w 5), .int (w 6)] : List Value).set 5 (.int x))) = trH X M q nu vc sb tp by_ sh nn fo kp (k) (upd w 4 x) := tr_set (k2 := k) (w2 := upd w 4 x)
theorem tr_f5 (x : Int32) : va_up (trH X M q nu vc sb tp by_ sh nn fo kp (k) (w)) (4 + 11 * 2 + 8) (.inr (0, ([.int k, .int (w 0), .int (w 1), .int (w 2), .int (w 3), .int (w 4), .int (w 5), .int (w 6)] : List Value).set 6 (.int x))) = trH X M q nu vc sb tp by_ sh nn fo kp (k) (upd w 5 x) := tr_set (k2 := k) (w2 := upd w 5 x)
theorem tr_f6 (x : Int32) : va_up (trH X M q nu vc sb tp by_ sh nn fo kp (k) (w)) (4 + 11 * 2 + 8) (.inr (0, ([.int k, .int (w 0), .int (w 1), .int (w 2), .int (w 3), .int (w 4), .int (w 5), .int (w 6)] : List Value).set 7 (.int x))) = trH X M q nu vc sb tp by_ sh nn fo kp (k) (upd w 6 x) := tr_set (k2 := k) (w2 := upd w 6 x)
theorem tr_tr {P : Nat} : ch X M q (va_up (va_up nu 2 (upd (nu 2) 8 k)) 2 (upd ((va_up nu 2 (upd (nu 2) 8 k)) 2) 8 ((va_up nu 2 (upd (nu 2) 8 k)) 0 P))) (va_up (va_up vc 2 (va_up (vc 2) 8 w)) 2 (va_up ((va_up vc 2 (va_up (vc 2) 8 w)) 2) 8 ((va_up vc 2 (va_up (vc 2) 8 w)) 0 P))) sb tp by_ sh nn fo kp = trH X M q nu vc sb tp by_ sh nn fo kp (nu 0 P) (vc 0 P) := by
  rw [up_up, up_up, va_up_self, va_up_self, updd, up_up, va_up_ne _ _ (show (0 : Nat) ≠ 2 by decide), va_up_ne _ _ (show (0 : Nat) ≠ 2 by decide)]; rfl
end TR
theorem c_X5_trialOf_T {l : Launch} {X : Gx} {M : MS} {q nu : Nat → Nat → Int32} {vc : Nat → Nat → Nat → Int32} {sb : Nat → Nat → Int32} {tp by_ : Nat → Int32} {sh : Nat → Nat → Int32} {nn : Nat → Nat → Int64} {fo : Nat → Int32} {kp : Int32} {k : Int32} {w : Nat → Int32} {P : Nat} (hP : P < 8) : Cr l X yX5_trialOf cX5_trialOf 2 (some (.object "GrudgeGlasses$One")) (rmk 2 42) [.ref (ga X 0), .int (nI P)] (trH X M q nu vc sb tp by_ sh nn fo kp (k) (w)) (fun r_ g => r_ = ga X (4 + 11 * 2 + 8) ∧ g = trH X M q nu vc sb tp by_ sh nn fo kp (nu 0 P) (vc 0 P)) := by
  have h := c_X5_trialOf (l := l) (X := X) (M := M) (q := q) (nu := va_up nu 2 (upd (nu 2) 8 k)) (vc := va_up vc 2 (va_up (vc 2) 8 w)) (sb := sb) (tp := tp) (by_ := by_) (sh := sh) (nn := nn) (fo := fo) (kp := kp) (P := P) hP
  rw [tr_tr] at h
  exact h
theorem c_X0_letDaysGo_T {l : Launch} {X : Gx} {M : MS} {q nu : Nat → Nat → Int32} {vc : Nat → Nat → Nat → Int32} {sb : Nat → Nat → Int32} {tp by_ : Nat → Int32} {sh : Nat → Nat → Int32} {nn : Nat → Nat → Int64} {fo : Nat → Int32} {kp : Int32} {k : Int32} {w : Nat → Int32} (hw : okV w) {n : Nat} (hn : n < 2147483648) : Cv l X yX0_letDaysGo cX0_letDaysGo 3 (none) (rmk 4 87) [.ref (ga X (4 + 11 * 2 + 8)), .int (nI n)] (trH X M q nu vc sb tp by_ sh nn fo kp (k) (w)) (fun g => g = trH X M q nu vc sb tp by_ sh nn fo kp (k) (itD k w n)) := by
  have h := c_X0_letDaysGo_F (l := l) (X := X) (f := trH X M q nu vc sb tp by_ sh nn fo kp (k) (w)) (q := 4 + 11 * 2 + 8) (by decide) (k := k) (v := w) tr_o8 hw hn
  simp only [tr_set] at h
  exact h
theorem c_X0_takePairOf_T {l : Launch} {X : Gx} {M : MS} {q nu : Nat → Nat → Int32} {vc : Nat → Nat → Nat → Int32} {sb : Nat → Nat → Int32} {tp by_ : Nat → Int32} {sh : Nat → Nat → Int32} {nn : Nat → Nat → Int64} {fo : Nat → Int32} {kp : Int32} {k : Int32} {w : Nat → Int32} {Q : Nat} (hQ : Q < 8) : Cv l X yX0_takePairOf cX0_takePairOf 2 (none) (rmk 0 0) [.ref (ga X (4 + 11 * 2 + 8)), .ref (ga X (4 + 11 * 0 + Q))] (trH X M q nu vc sb tp by_ sh nn fo kp (k) (w)) (fun g => g = trH X M q nu vc sb tp by_ sh nn fo kp (k) (vsw w (vc 0 Q))) := by
  have h := c_X0_takePairOf_F (l := l) (X := X) (f := trH X M q nu vc sb tp by_ sh nn fo kp (k) (w)) (q := 4 + 11 * 2 + 8) (by decide) (k := k) (v := w) tr_o8 (q2 := 4 + 11 * 0 + Q) (by omega) (by omega) (tr_o0 hQ)
  simp only [tr_set] at h
  exact h
theorem c_X5_daysTillForgiven_T {l : Launch} {X : Gx} {M : MS} {q nu : Nat → Nat → Int32} {vc : Nat → Nat → Nat → Int32} {sb : Nat → Nat → Int32} {tp by_ : Nat → Int32} {sh : Nat → Nat → Int32} {nn : Nat → Nat → Int64} {fo : Nat → Int32} {kp : Int32} {k : Int32} {w : Nat → Int32} (hw : okV w) : Ci l X yX5_daysTillForgiven cX5_daysTillForgiven 2 (some .int) (rmk 4 87) [.ref (ga X (4 + 11 * 2 + 8))] (trH X M q nu vc sb tp by_ sh nn fo kp (k) (w)) (fun z g => z = nI ((eas k w).getD 201) ∧ ∃ w2, g = trH X M q nu vc sb tp by_ sh nn fo kp (k) (w2)) := by
  have h := c_X5_daysTillForgiven (l := l) (X := X) (f := trH X M q nu vc sb tp by_ sh nn fo kp (k) (w)) (q := 4 + 11 * 2 + 8) (by decide) (k := k) (v := w) hw
  rw [one_self tr_o8] at h
  simp only [tr_set] at h
  exact h
theorem c_X5_daysTillWornOut_T {l : Launch} {X : Gx} {M : MS} {q nu : Nat → Nat → Int32} {vc : Nat → Nat → Nat → Int32} {sb : Nat → Nat → Int32} {tp by_ : Nat → Int32} {sh : Nat → Nat → Int32} {nn : Nat → Nat → Int64} {fo : Nat → Int32} {kp : Int32} {k : Int32} {w : Nat → Int32} (hw : okV w) : Ci l X yX5_daysTillWornOut cX5_daysTillWornOut 2 (some .int) (rmk 4 87) [.ref (ga X (4 + 11 * 2 + 8))] (trH X M q nu vc sb tp by_ sh nn fo kp (k) (w)) (fun z g => z = nI ((wrn k w).getD 201) ∧ ∃ w2, g = trH X M q nu vc sb tp by_ sh nn fo kp (k) (w2)) := by
  have h := c_X5_daysTillWornOut (l := l) (X := X) (f := trH X M q nu vc sb tp by_ sh nn fo kp (k) (w)) (q := 4 + 11 * 2 + 8) (by decide) (k := k) (v := w) hw
  rw [one_self tr_o8] at h
  simp only [tr_set] at h
  exact h
set_option maxHeartbeats 4000000 in
set_option maxRecDepth 100000 in
theorem c_X5_on {l : Launch} {X : Gx} {M : MS} {q nu : Nat → Nat → Int32} {vc : Nat → Nat → Nat → Int32} {sb : Nat → Nat → Int32} {tp by_ : Nat → Int32} {sh : Nat → Nat → Int32} {nn : Nat → Nat → Int64} {fo : Nat → Int32} {kp : Int32} {n : Nat} (hN : q 0 1 = nI n) (h8 : n ≤ 8) (hnu : ∀ p, p < n → nu 0 p = nI p) (hok : ∀ p, p < n → okV (vc 0 p)) {p k w : Int32} : Ci l X yX5_on cX5_on 5 (some .int) (rmk 5 109) [.ref (ga X 0), .int p, .int k, .int w] (ch X M q nu vc sb tp by_ sh nn fo kp) (fun z g => z = ansI (S_on n (vc 0) p k w) ∧ ∃ q2 n2 v2 sb2, g = ch X M (va_up q 2 q2) (va_up nu 2 n2) (va_up vc 2 v2) sb2 tp by_ sh nn (fnF fo (S_on n (vc 0) p k w)) kp) := by
  refine ct_i (own := RX5) (lv := [some (.ref (ga X 0)), some (.int p), some (.int k), some (.int w), none]) (by decide) rfl (Nat.le_of_ble_eq_true rfl) (Nat.le_of_ble_eq_true rfl) rfl (fun C hC hR => ?_)
  have hix : ∀ P, P < n → pIx n (nI P) = some P := fun P h => pIx_nI h h8
  have hno : ∀ p, (¬ ∃ P, P < n ∧ p = nI P) → pIx n p = none := fun p h => pIx_no h8 h
  refine v_aload_n hC rfl dX5_on_0 (q := 1) rfl ?_
  refine v_iload_n hC rfl dX5_on_1 (q := 2) rfl ?_
  refine v_Vi hC lkV_X5_73 (c_X5_isThere hN h8) rfl (by decide) (k := 0) (by decide) ch_0 rfl rfl (Nat.le_of_ble_eq_true rfl) dX5_on_2 (q := 5) rfl ?_
  rintro _ _ ⟨⟨⟨P2, hP2, rfl⟩, rfl⟩ | ⟨hc2, rfl⟩, rfl⟩
  · refine v_if_eq hC dX5_on_5 (t := 26) rfl (q := 8) rfl (fun h => absurd h (by decide)) (fun _ => ?_)
    refine v_iload_n hC rfl dX5_on_8 (q := 9) rfl ?_
    refine v_sipush hC (v := 200) rfl dX5_on_9 (q := 12) rfl ?_
    refine v_Si hC lkS_X5_121 c_X5_isUpTo rfl (by decide) rfl (Nat.le_of_ble_eq_true rfl) dX5_on_12 (q := 15) rfl ?_
    rintro _ _ ⟨⟨hc12, rfl⟩ | ⟨hc12, rfl⟩, rfl⟩
    · refine v_if_eq hC dX5_on_15 (t := 26) rfl (q := 18) rfl (fun h => absurd h (by decide)) (fun _ => ?_)
      refine v_iload_n hC rfl dX5_on_18 (q := 19) rfl ?_
      refine v_iconst hC (v := 1) rfl dX5_on_19 (q := 20) rfl ?_
      refine v_Si hC lkS_X5_121 c_X5_isUpTo rfl (by decide) rfl (Nat.le_of_ble_eq_true rfl) dX5_on_20 (q := 23) rfl ?_
      rintro _ _ ⟨⟨hc20, rfl⟩ | ⟨hc20, rfl⟩, rfl⟩
      · refine v_if_ne hC dX5_on_23 (t := 33) rfl (q := 26) rfl (fun _ => ?_) (fun h => absurd h (by decide))
        obtain ⟨K, -, hK, rfl⟩ := w_of' (a := 0) (N := 200) (by decide) (by decide) hc12.1 hc12.2
        have hcl : (nI K).toNatClampNeg = K := nI_clamp (by omega)
        rw [tr0]
        refine v_aload_n hC rfl dX5_on_33 (q := 34) rfl ?_
        refine v_iload_n hC rfl dX5_on_34 (q := 35) rfl ?_
        refine v_Vr hC lkV_X5_148 (c_X5_trialOf_T (P := P2) (by omega)) rfl (by decide) (k := 0) (by decide) ch_0 rfl rfl (Nat.le_of_ble_eq_true rfl) dX5_on_35 (q := 38) rfl ?_
        rintro _ _ ⟨rfl, rfl⟩
        refine v_astore_4 hC rfl dX5_on_38 (q := 40) rfl ?_
        refine v_aload hC rfl dX5_on_40 (q := 42) rfl ?_
        refine v_iload_n hC rfl dX5_on_42 (q := 43) rfl ?_
        refine v_Vv hC lkV_X5_151 (c_X0_letDaysGo_T (hok _ hP2) (by omega)) rfl (by decide) (k := 4 + 11 * 2 + 8) (by decide) tr_o8 rfl rfl (Nat.le_of_ble_eq_true rfl) dX5_on_43 (q := 46) rfl ?_
        rintro _ rfl
        refine v_iload_n hC rfl dX5_on_46 (q := 47) rfl ?_
        refine v_if_ne hC dX5_on_47 (t := 58) rfl (q := 50) rfl (fun h47 => ?_) (fun h47 => ?_)
        · refine v_aload hC rfl dX5_on_58 (q := 60) rfl ?_
          refine v_getN hC nl_X5_152 (k := 4 + 11 * 2 + 8) (by decide) tr_o8 rfl dX5_on_60 (q := 63) rfl ?_
          refine hR _ _ _ _ ?_ dX5_on_63
          rw [hnu _ hP2]
          refine ⟨?_, q 2, upd (nu 2) 8 (nI P2), va_up (vc 2) 8 (itD (nI P2) (vc 0 P2) K), sb, ?_⟩
          · simp only [S_on, ansI, fnF, hix _ hP2, if_pos (And.intro hc12 hc20), hcl, if_neg h47]
          · rw [up_id, trH]
            simp only [S_on, ansI, fnF, hix _ hP2, if_pos (And.intro hc12 hc20), hcl, if_neg h47]
        · refine v_aload hC rfl dX5_on_50 (q := 52) rfl ?_
          refine v_getN hC nl_X5_98 (k := 4 + 11 * 2 + 8) (by decide) tr_o8 rfl dX5_on_52 (q := 55) rfl ?_
          refine v_goto hC dX5_on_55 (t := 63) rfl ?_
          refine hR _ _ _ _ ?_ dX5_on_63
          rw [hnu _ hP2]
          refine ⟨?_, q 2, upd (nu 2) 8 (nI P2), va_up (vc 2) 8 (itD (nI P2) (vc 0 P2) K), sb, ?_⟩
          · simp only [S_on, ansI, fnF, hix _ hP2, if_pos (And.intro hc12 hc20), hcl, if_pos h47]
          · rw [up_id, trH]
            simp only [S_on, ansI, fnF, hix _ hP2, if_pos (And.intro hc12 hc20), hcl, if_pos h47]
      · refine v_if_ne hC dX5_on_23 (t := 33) rfl (q := 26) rfl (fun h => absurd h (by decide)) (fun _ => ?_)
        refine v_aload_n hC rfl dX5_on_26 (q := 27) rfl ?_
        refine v_ldc hC wk_X5_55 dX5_on_27 (q := 29) rfl ?_
        refine v_Vi hC lkV_X5_56 (c_X5_finding (n := 0) (by decide)) rfl (by decide) (k := 0) (by decide) ch_0 rfl rfl (Nat.le_of_ble_eq_true rfl) dX5_on_29 (q := 32) rfl ?_
        rintro _ _ ⟨rfl, rfl⟩
        refine hR _ _ _ _ ?_ dX5_on_32
        refine ⟨?_, q 2, nu 2, vc 2, sb, ?_⟩
        · simp only [S_on, ansI, fnF, hix _ hP2, hc20, and_false, if_false]
        · rw [up_id, up_id, up_id]
          simp only [S_on, ansI, fnF, hix _ hP2, hc20, and_false, if_false]
    · refine v_if_eq hC dX5_on_15 (t := 26) rfl (q := 18) rfl (fun _ => ?_) (fun h => absurd h (by decide))
      refine v_aload_n hC rfl dX5_on_26 (q := 27) rfl ?_
      refine v_ldc hC wk_X5_55 dX5_on_27 (q := 29) rfl ?_
      refine v_Vi hC lkV_X5_56 (c_X5_finding (n := 0) (by decide)) rfl (by decide) (k := 0) (by decide) ch_0 rfl rfl (Nat.le_of_ble_eq_true rfl) dX5_on_29 (q := 32) rfl ?_
      rintro _ _ ⟨rfl, rfl⟩
      refine hR _ _ _ _ ?_ dX5_on_32
      refine ⟨?_, q 2, nu 2, vc 2, sb, ?_⟩
      · simp only [S_on, ansI, fnF, hix _ hP2, hc12, false_and, if_false]
      · rw [up_id, up_id, up_id]
        simp only [S_on, ansI, fnF, hix _ hP2, hc12, false_and, if_false]
  · refine v_if_eq hC dX5_on_5 (t := 26) rfl (q := 8) rfl (fun _ => ?_) (fun h => absurd h (by decide))
    refine v_aload_n hC rfl dX5_on_26 (q := 27) rfl ?_
    refine v_ldc hC wk_X5_55 dX5_on_27 (q := 29) rfl ?_
    refine v_Vi hC lkV_X5_56 (c_X5_finding (n := 0) (by decide)) rfl (by decide) (k := 0) (by decide) ch_0 rfl rfl (Nat.le_of_ble_eq_true rfl) dX5_on_29 (q := 32) rfl ?_
    rintro _ _ ⟨rfl, rfl⟩
    refine hR _ _ _ _ ?_ dX5_on_32
    refine ⟨?_, q 2, nu 2, vc 2, sb, ?_⟩
    · simp [S_on, ansI, fnF, hno _ hc2]
    · rw [up_id, up_id, up_id]
      simp [S_on, ansI, fnF, hno _ hc2]

set_option maxHeartbeats 4000000 in
set_option maxRecDepth 100000 in
theorem c_X5_then {l : Launch} {X : Gx} {M : MS} {q nu : Nat → Nat → Int32} {vc : Nat → Nat → Nat → Int32} {sb : Nat → Nat → Int32} {tp by_ : Nat → Int32} {sh : Nat → Nat → Int32} {nn : Nat → Nat → Int64} {fo : Nat → Int32} {kp : Int32} {n : Nat} (hN : q 0 1 = nI n) (h8 : n ≤ 8) (hnu : ∀ p, p < n → nu 0 p = nI p) (hok : ∀ p, p < n → okV (vc 0 p)) {p q_ k : Int32} : Ci l X yX5_then cX5_then 5 (some .int) (rmk 5 109) [.ref (ga X 0), .int p, .int q_, .int k] (ch X M q nu vc sb tp by_ sh nn fo kp) (fun z g => z = ansI (S_then n (vc 0) p q_ k) ∧ ∃ q2 n2 v2 sb2, g = ch X M (va_up q 2 q2) (va_up nu 2 n2) (va_up vc 2 v2) sb2 tp by_ sh nn (fnF fo (S_then n (vc 0) p q_ k)) kp) := by
  refine ct_i (own := RX5) (lv := [some (.ref (ga X 0)), some (.int p), some (.int q_), some (.int k), none]) (by decide) rfl (Nat.le_of_ble_eq_true rfl) (Nat.le_of_ble_eq_true rfl) rfl (fun C hC hR => ?_)
  have hix : ∀ P Q, P < n → Q < n → P ≠ Q → pTw n (nI P) (nI Q) = some (P, Q) := fun P Q a b c => pTw_nI h8 a b c
  have hno : ∀ p q, (¬ ∃ P Q, P < n ∧ Q < n ∧ P ≠ Q ∧ p = nI P ∧ q = nI Q) → pTw n p q = none := fun p q h => pTw_no h8 h
  refine v_aload_n hC rfl dX5_then_0 (q := 1) rfl ?_
  refine v_iload_n hC rfl dX5_then_1 (q := 2) rfl ?_
  refine v_iload_n hC rfl dX5_then_2 (q := 3) rfl ?_
  refine v_Vi hC lkV_X5_111 (c_X5_areTwo hN h8) rfl (by decide) (k := 0) (by decide) ch_0 rfl rfl (Nat.le_of_ble_eq_true rfl) dX5_then_3 (q := 6) rfl ?_
  rintro _ _ ⟨⟨⟨P3, Q3, hP3, hQ3, hne3, rfl, rfl⟩, rfl⟩ | ⟨hc3, rfl⟩, rfl⟩
  · refine v_if_eq hC dX5_then_6 (t := 19) rfl (q := 9) rfl (fun h => absurd h (by decide)) (fun _ => ?_)
    refine v_iload_n hC rfl dX5_then_9 (q := 10) rfl ?_
    refine v_sipush hC (v := 200) rfl dX5_then_10 (q := 13) rfl ?_
    refine v_Si hC lkS_X5_121 c_X5_isUpTo rfl (by decide) rfl (Nat.le_of_ble_eq_true rfl) dX5_then_13 (q := 16) rfl ?_
    rintro _ _ ⟨⟨hc13, rfl⟩ | ⟨hc13, rfl⟩, rfl⟩
    · refine v_if_ne hC dX5_then_16 (t := 26) rfl (q := 19) rfl (fun _ => ?_) (fun h => absurd h (by decide))
      obtain ⟨K, -, hK, rfl⟩ := w_of' (a := 0) (N := 200) (by decide) (by decide) hc13.1 hc13.2
      have hcl : (nI K).toNatClampNeg = K := nI_clamp (by omega)
      rw [tr0]
      refine v_aload_n hC rfl dX5_then_26 (q := 27) rfl ?_
      refine v_iload_n hC rfl dX5_then_27 (q := 28) rfl ?_
      refine v_Vr hC lkV_X5_148 (c_X5_trialOf_T (P := P3) (by omega)) rfl (by decide) (k := 0) (by decide) ch_0 rfl rfl (Nat.le_of_ble_eq_true rfl) dX5_then_28 (q := 31) rfl ?_
      rintro _ _ ⟨rfl, rfl⟩
      refine v_astore_4 hC rfl dX5_then_31 (q := 33) rfl ?_
      refine v_aload hC rfl dX5_then_33 (q := 35) rfl ?_
      refine v_iload_n hC rfl dX5_then_35 (q := 36) rfl ?_
      refine v_Vv hC lkV_X5_151 (c_X0_letDaysGo_T (hok _ hP3) (by omega)) rfl (by decide) (k := 4 + 11 * 2 + 8) (by decide) tr_o8 rfl rfl (Nat.le_of_ble_eq_true rfl) dX5_then_36 (q := 39) rfl ?_
      rintro _ rfl
      refine v_aload hC rfl dX5_then_39 (q := 41) rfl ?_
      refine v_iload_n hC rfl dX5_then_41 (q := 42) rfl ?_
      refine v_Vi hC lkV_X5_118 (c_X0_sharpnessAt_F (q := 4 + 11 * 2 + 8) (by decide) tr_o8 (okV_it (hok _ hP3) _)) rfl (by decide) (k := 4 + 11 * 2 + 8) (by decide) tr_o8 rfl rfl (Nat.le_of_ble_eq_true rfl) dX5_then_42 (q := 45) rfl ?_
      rintro _ _ ⟨rfl, rfl⟩
      refine hR _ _ _ _ ?_ dX5_then_45
      rw [hnu _ hP3]
      refine ⟨?_, q 2, upd (nu 2) 8 (nI P3), va_up (vc 2) 8 (itD (nI P3) (vc 0 P3) K), sb, ?_⟩
      · simp only [S_then, ansI, fnF, hix _ _ hP3 hQ3 hne3, if_pos hc13, hcl]
      · rw [up_id, trH]
        simp only [S_then, ansI, fnF, hix _ _ hP3 hQ3 hne3, if_pos hc13, hcl]
    · refine v_if_ne hC dX5_then_16 (t := 26) rfl (q := 19) rfl (fun h => absurd h (by decide)) (fun _ => ?_)
      refine v_aload_n hC rfl dX5_then_19 (q := 20) rfl ?_
      refine v_ldc hC wk_X5_55 dX5_then_20 (q := 22) rfl ?_
      refine v_Vi hC lkV_X5_56 (c_X5_finding (n := 0) (by decide)) rfl (by decide) (k := 0) (by decide) ch_0 rfl rfl (Nat.le_of_ble_eq_true rfl) dX5_then_22 (q := 25) rfl ?_
      rintro _ _ ⟨rfl, rfl⟩
      refine hR _ _ _ _ ?_ dX5_then_25
      refine ⟨?_, q 2, nu 2, vc 2, sb, ?_⟩
      · simp only [S_then, ansI, fnF, hix _ _ hP3 hQ3 hne3, hc13, if_false]
      · rw [up_id, up_id, up_id]
        simp only [S_then, ansI, fnF, hix _ _ hP3 hQ3 hne3, hc13, if_false]
  · refine v_if_eq hC dX5_then_6 (t := 19) rfl (q := 9) rfl (fun _ => ?_) (fun h => absurd h (by decide))
    refine v_aload_n hC rfl dX5_then_19 (q := 20) rfl ?_
    refine v_ldc hC wk_X5_55 dX5_then_20 (q := 22) rfl ?_
    refine v_Vi hC lkV_X5_56 (c_X5_finding (n := 0) (by decide)) rfl (by decide) (k := 0) (by decide) ch_0 rfl rfl (Nat.le_of_ble_eq_true rfl) dX5_then_22 (q := 25) rfl ?_
    rintro _ _ ⟨rfl, rfl⟩
    refine hR _ _ _ _ ?_ dX5_then_25
    refine ⟨?_, q 2, nu 2, vc 2, sb, ?_⟩
    · simp only [S_then, ansI, fnF, hno _ _ hc3]
    · rw [up_id, up_id, up_id]
      simp only [S_then, ansI, fnF, hno _ _ hc3]

set_option maxHeartbeats 4000000 in
set_option maxRecDepth 100000 in
theorem c_X5_forgives {l : Launch} {X : Gx} {M : MS} {q nu : Nat → Nat → Int32} {vc : Nat → Nat → Nat → Int32} {sb : Nat → Nat → Int32} {tp by_ : Nat → Int32} {sh : Nat → Nat → Int32} {nn : Nat → Nat → Int64} {fo : Nat → Int32} {kp : Int32} {n : Nat} (hN : q 0 1 = nI n) (h8 : n ≤ 8) (hnu : ∀ p, p < n → nu 0 p = nI p) (hok : ∀ p, p < n → okV (vc 0 p)) {p : Int32} : Ci l X yX5_forgives cX5_forgives 2 (some .int) (rmk 5 108) [.ref (ga X 0), .int p] (ch X M q nu vc sb tp by_ sh nn fo kp) (fun z g => z = ansI (S_forgives n (vc 0) p) ∧ ∃ q2 n2 v2 sb2, g = ch X M (va_up q 2 q2) (va_up nu 2 n2) (va_up vc 2 v2) sb2 tp by_ sh nn (fnF fo (S_forgives n (vc 0) p)) kp) := by
  refine ct_i (own := RX5) (lv := [some (.ref (ga X 0)), some (.int p)]) (by decide) rfl (Nat.le_of_ble_eq_true rfl) (Nat.le_of_ble_eq_true rfl) rfl (fun C hC hR => ?_)
  have hix : ∀ P, P < n → pIx n (nI P) = some P := fun P h => pIx_nI h h8
  have hno : ∀ p, (¬ ∃ P, P < n ∧ p = nI P) → pIx n p = none := fun p h => pIx_no h8 h
  refine v_aload_n hC rfl dX5_forgives_0 (q := 1) rfl ?_
  refine v_iload_n hC rfl dX5_forgives_1 (q := 2) rfl ?_
  refine v_Vi hC lkV_X5_73 (c_X5_isThere hN h8) rfl (by decide) (k := 0) (by decide) ch_0 rfl rfl (Nat.le_of_ble_eq_true rfl) dX5_forgives_2 (q := 5) rfl ?_
  rintro _ _ ⟨⟨⟨P2, hP2, rfl⟩, rfl⟩ | ⟨hc2, rfl⟩, rfl⟩
  · refine v_if_ne hC dX5_forgives_5 (t := 15) rfl (q := 8) rfl (fun _ => ?_) (fun h => absurd h (by decide))
    rw [tr0]
    refine v_aload_n hC rfl dX5_forgives_15 (q := 16) rfl ?_
    refine v_aload_n hC rfl dX5_forgives_16 (q := 17) rfl ?_
    refine v_iload_n hC rfl dX5_forgives_17 (q := 18) rfl ?_
    refine v_Vr hC lkV_X5_148 (c_X5_trialOf_T (P := P2) (by omega)) rfl (by decide) (k := 0) (by decide) ch_0 rfl rfl (Nat.le_of_ble_eq_true rfl) dX5_forgives_18 (q := 21) rfl ?_
    rintro _ _ ⟨rfl, rfl⟩
    refine v_Si hC lkS_X5_155 (c_X5_daysTillForgiven_T (hok _ hP2)) rfl (by decide) rfl (Nat.le_of_ble_eq_true rfl) dX5_forgives_21 (q := 24) rfl ?_
    rintro _ _ ⟨rfl, w21, rfl⟩
    rw [hnu _ hP2]
    refine v_Vi hC lkV_X5_159 (c_X5_daysOrNone (fun j hj => by have := fstN_lt _ _ _ ((eas_eq _ _).symm.trans hj); omega)) rfl (by decide) (k := 0) (by decide) ch_0 rfl rfl (Nat.le_of_ble_eq_true rfl) dX5_forgives_24 (q := 27) rfl ?_
    rintro _ _ ⟨rfl, rfl⟩
    refine hR _ _ _ _ ?_ dX5_forgives_27
    refine ⟨?_, q 2, upd (nu 2) 8 (nI P2), va_up (vc 2) 8 (w21), sb, ?_⟩
    · simp only [S_forgives, hix _ hP2]
    · rw [up_id]
      simp only [S_forgives, hix _ hP2]
  · refine v_if_ne hC dX5_forgives_5 (t := 15) rfl (q := 8) rfl (fun h => absurd h (by decide)) (fun _ => ?_)
    refine v_aload_n hC rfl dX5_forgives_8 (q := 9) rfl ?_
    refine v_ldc hC wk_X5_55 dX5_forgives_9 (q := 11) rfl ?_
    refine v_Vi hC lkV_X5_56 (c_X5_finding (n := 0) (by decide)) rfl (by decide) (k := 0) (by decide) ch_0 rfl rfl (Nat.le_of_ble_eq_true rfl) dX5_forgives_11 (q := 14) rfl ?_
    rintro _ _ ⟨rfl, rfl⟩
    refine hR _ _ _ _ ?_ dX5_forgives_14
    refine ⟨?_, q 2, nu 2, vc 2, sb, ?_⟩
    · simp only [S_forgives, ansI, fnF, hno _ hc2]
    · rw [up_id, up_id, up_id]
      simp only [S_forgives, ansI, fnF, hno _ hc2]

set_option maxHeartbeats 4000000 in
set_option maxRecDepth 100000 in
theorem c_X5_worn {l : Launch} {X : Gx} {M : MS} {q nu : Nat → Nat → Int32} {vc : Nat → Nat → Nat → Int32} {sb : Nat → Nat → Int32} {tp by_ : Nat → Int32} {sh : Nat → Nat → Int32} {nn : Nat → Nat → Int64} {fo : Nat → Int32} {kp : Int32} {n : Nat} (hN : q 0 1 = nI n) (h8 : n ≤ 8) (hnu : ∀ p, p < n → nu 0 p = nI p) (hok : ∀ p, p < n → okV (vc 0 p)) {p : Int32} : Ci l X yX5_worn cX5_worn 2 (some .int) (rmk 5 108) [.ref (ga X 0), .int p] (ch X M q nu vc sb tp by_ sh nn fo kp) (fun z g => z = ansI (S_worn n (vc 0) p) ∧ ∃ q2 n2 v2 sb2, g = ch X M (va_up q 2 q2) (va_up nu 2 n2) (va_up vc 2 v2) sb2 tp by_ sh nn (fnF fo (S_worn n (vc 0) p)) kp) := by
  refine ct_i (own := RX5) (lv := [some (.ref (ga X 0)), some (.int p)]) (by decide) rfl (Nat.le_of_ble_eq_true rfl) (Nat.le_of_ble_eq_true rfl) rfl (fun C hC hR => ?_)
  have hix : ∀ P, P < n → pIx n (nI P) = some P := fun P h => pIx_nI h h8
  have hno : ∀ p, (¬ ∃ P, P < n ∧ p = nI P) → pIx n p = none := fun p h => pIx_no h8 h
  refine v_aload_n hC rfl dX5_worn_0 (q := 1) rfl ?_
  refine v_iload_n hC rfl dX5_worn_1 (q := 2) rfl ?_
  refine v_Vi hC lkV_X5_73 (c_X5_isThere hN h8) rfl (by decide) (k := 0) (by decide) ch_0 rfl rfl (Nat.le_of_ble_eq_true rfl) dX5_worn_2 (q := 5) rfl ?_
  rintro _ _ ⟨⟨⟨P2, hP2, rfl⟩, rfl⟩ | ⟨hc2, rfl⟩, rfl⟩
  · refine v_if_ne hC dX5_worn_5 (t := 15) rfl (q := 8) rfl (fun _ => ?_) (fun h => absurd h (by decide))
    rw [tr0]
    refine v_aload_n hC rfl dX5_worn_15 (q := 16) rfl ?_
    refine v_aload_n hC rfl dX5_worn_16 (q := 17) rfl ?_
    refine v_iload_n hC rfl dX5_worn_17 (q := 18) rfl ?_
    refine v_Vr hC lkV_X5_148 (c_X5_trialOf_T (P := P2) (by omega)) rfl (by decide) (k := 0) (by decide) ch_0 rfl rfl (Nat.le_of_ble_eq_true rfl) dX5_worn_18 (q := 21) rfl ?_
    rintro _ _ ⟨rfl, rfl⟩
    refine v_Si hC lkS_X5_162 (c_X5_daysTillWornOut_T (hok _ hP2)) rfl (by decide) rfl (Nat.le_of_ble_eq_true rfl) dX5_worn_21 (q := 24) rfl ?_
    rintro _ _ ⟨rfl, w21, rfl⟩
    rw [hnu _ hP2]
    refine v_Vi hC lkV_X5_159 (c_X5_daysOrNone (fun j hj => by have := fstN_lt _ _ _ ((wrn_eq _ _).symm.trans hj); omega)) rfl (by decide) (k := 0) (by decide) ch_0 rfl rfl (Nat.le_of_ble_eq_true rfl) dX5_worn_24 (q := 27) rfl ?_
    rintro _ _ ⟨rfl, rfl⟩
    refine hR _ _ _ _ ?_ dX5_worn_27
    refine ⟨?_, q 2, upd (nu 2) 8 (nI P2), va_up (vc 2) 8 (w21), sb, ?_⟩
    · simp only [S_worn, hix _ hP2]
    · rw [up_id]
      simp only [S_worn, hix _ hP2]
  · refine v_if_ne hC dX5_worn_5 (t := 15) rfl (q := 8) rfl (fun h => absurd h (by decide)) (fun _ => ?_)
    refine v_aload_n hC rfl dX5_worn_8 (q := 9) rfl ?_
    refine v_ldc hC wk_X5_55 dX5_worn_9 (q := 11) rfl ?_
    refine v_Vi hC lkV_X5_56 (c_X5_finding (n := 0) (by decide)) rfl (by decide) (k := 0) (by decide) ch_0 rfl rfl (Nat.le_of_ble_eq_true rfl) dX5_worn_11 (q := 14) rfl ?_
    rintro _ _ ⟨rfl, rfl⟩
    refine hR _ _ _ _ ?_ dX5_worn_14
    refine ⟨?_, q 2, nu 2, vc 2, sb, ?_⟩
    · simp only [S_worn, ansI, fnF, hno _ hc2]
    · rw [up_id, up_id, up_id]
      simp only [S_worn, ansI, fnF, hno _ hc2]
