/-! ===== Int32 by its bits: bt x i ===== -/
def bt (x : Int32) (i : Nat) : Bool := x.toBitVec.getLsbD i
theorem b_ext {x y : Int32} (h : ∀ i, i < 32 → bt x i = bt y i) : x = y := Int32.toBitVec_inj.mp (BitVec.eq_of_getLsbD_eq (fun i hi => h i hi))
theorem b_or (x y : Int32) (i : Nat) : bt (x ||| y) i = (bt x i || bt y i) := by unfold bt; rw [Int32.toBitVec_or, BitVec.getLsbD_or]
theorem b_and (x y : Int32) (i : Nat) : bt (x &&& y) i = (bt x i && bt y i) := by unfold bt; rw [Int32.toBitVec_and, BitVec.getLsbD_and]
theorem b_xor (x y : Int32) (i : Nat) : bt (x ^^^ y) i = (bt x i ^^ bt y i) := by unfold bt; rw [Int32.toBitVec_xor, BitVec.getLsbD_xor]
theorem b_big {x : Int32} {i : Nat} (h : 32 ≤ i) : bt x i = false := BitVec.getLsbD_of_ge _ _ h
theorem b_255 (i : Nat) : bt 255 i = decide (i < 8) := by
  rcases Nat.lt_or_ge i 32 with h | h
  · exact (by decide +kernel : ∀ i, i < 32 → bt 255 i = decide (i < 8)) i h
  · rw [b_big h, decide_eq_false (by omega)]
theorem b_65535 (i : Nat) : bt 65535 i = decide (i < 16) := by
  rcases Nat.lt_or_ge i 32 with h | h
  · exact (by decide +kernel : ∀ i, i < 32 → bt 65535 i = decide (i < 16)) i h
  · rw [b_big h, decide_eq_false (by omega)]
theorem b_m1 : ∀ i, i < 32 → bt (-1) i = true := by decide +kernel
theorem b_0 (i : Nat) : bt 0 i = false := BitVec.getLsbD_zero
theorem s_l : ∀ n, n < 32 → ((nI n &&& 31).toBitVec.smod 32).toNat = n := by decide +kernel
theorem s_u : ∀ n, n < 32 → (((nI n).toUInt32 &&& Int32.toUInt32 31).toBitVec % 32).toNat = n := by decide +kernel
theorem b_shl (n : Nat) (hn : n < 32) (x : Int32) {i : Nat} (hi : i < 32) : bt (x <<< (nI n &&& 31)) i = (decide (n ≤ i) && bt x (i - n)) := by
  unfold bt
  rw [Int32.toBitVec_shiftLeft]
  show (x.toBitVec <<< ((nI n &&& 31).toBitVec.smod 32).toNat).getLsbD i = _
  rw [s_l n hn, BitVec.getLsbD_shiftLeft]
  rcases Nat.lt_or_ge i n with h | h
  · simp [h, Nat.not_le.mpr h]
  · simp [hi, h, Nat.not_lt.mpr h]
theorem b_ushr (n : Nat) (hn : n < 32) (x : Int32) (i : Nat) : bt ((x.toUInt32 >>> ((nI n).toUInt32 &&& Int32.toUInt32 31)).toInt32) i = bt x (n + i) := by
  show (x.toUInt32 >>> ((nI n).toUInt32 &&& Int32.toUInt32 31)).toBitVec.getLsbD i = x.toUInt32.toBitVec.getLsbD (n + i)
  rw [UInt32.toBitVec_shiftRight]
  show (x.toUInt32.toBitVec >>> (((nI n).toUInt32 &&& Int32.toUInt32 31).toBitVec % 32).toNat).getLsbD i = _
  rw [s_u n hn, BitVec.getLsbD_ushiftRight]
theorem b_sshr (n : Nat) (hn : n < 32) (x : Int32) {i : Nat} (hi : i < 32) : bt (x >>> (nI n &&& 31)) i = if n + i < 32 then bt x (n + i) else bt x 31 := by
  unfold bt
  rw [Int32.toBitVec_shiftRight]
  show (x.toBitVec.sshiftRight ((nI n &&& 31).toBitVec.smod 32).toNat).getLsbD i = _
  rw [s_l n hn, BitVec.getLsbD_sshiftRight, BitVec.msb_eq_getLsbD_last]
  simp [hi]
theorem bt_bit : ∀ p : Fin 8, ∀ i : Fin 32, bt (bitI p.val) i.val = decide (i.val = p.val) := by decide +kernel
theorem bt_one : ∀ i : Fin 32, bt 1 i.val = decide (i.val = 0) := by decide +kernel
theorem and_bit (x : Int32) {p : Nat} (hp : p < 8) : x &&& bitI p = 0 ↔ bt x p = false := by
  constructor
  · intro h
    have := congrArg (fun z => bt z p) h
    simp only [b_and, b_0] at this
    rw [bt_bit ⟨p, hp⟩ ⟨p, by omega⟩] at this
    simpa using this
  · intro h
    refine b_ext (fun i hi => ?_)
    rw [b_and, b_0, bt_bit ⟨p, hp⟩ ⟨i, hi⟩]
    by_cases e : i = p
    · subst e; simp [h]
    · simp [e]
theorem shr_bit (x : Int32) {p : Nat} (hp : p < 8) : (x >>> (nI p &&& 31)) &&& 1 = 1 ↔ bt x p = true := by
  constructor
  · intro h
    have := congrArg (fun z => bt z 0) h
    simp only [b_and] at this
    rw [b_sshr p (by omega) x (by decide), if_pos (by omega), bt_one ⟨0, by decide⟩] at this
    simpa using this
  · intro h
    refine b_ext (fun i hi => ?_)
    rw [b_and, b_sshr p (by omega) x hi, bt_one ⟨i, hi⟩]
    by_cases e : i = 0
    · subst e; simp [h]; omega
    · simp [e]
theorem bit_iff (x : Int32) {p : Nat} (hp : p < 8) : (x &&& bitI p = 0) ↔ ¬ ((x >>> (nI p &&& 31)) &&& 1 = 1) := by
  rw [and_bit x hp, shr_bit x hp]
  simp
set_option maxHeartbeats 4000000 in
set_option maxRecDepth 100000 in
theorem c_X5_isOrIsUnder {l : Launch} {X : Gx} {f : Hp} {K : Nat} (hK : K < 6) {x : Int32} : Ci l X yX5_isOrIsUnder cX5_isOrIsUnder 4 (some .boolean) (rmk 1 20) [.int (nI K), .int x] (f) (fun z g => ((x = 0 ∨ x = nI K ∨ (x = 1 ∧ nI K = 4) ∨ (x = 2 ∧ nI K = 5)) ∧ z = 1 ∨ ¬ (x = 0 ∨ x = nI K ∨ (x = 1 ∧ nI K = 4) ∨ (x = 2 ∧ nI K = 5)) ∧ z = 0) ∧ g = f) := by
  refine ct_z (own := RX5) (lv := [some (.int (nI K)), some (.int x), none, none]) (by decide) rfl (Nat.le_of_ble_eq_true rfl) (Nat.le_of_ble_eq_true rfl) rfl (fun C hC hR => ?_)
  rcases (show K = 0 ∨ K = 1 ∨ K = 2 ∨ K = 3 ∨ K = 4 ∨ K = 5 by omega) with rfl | rfl | rfl | rfl | rfl | rfl
  · refine v_iload_n hC rfl dX5_isOrIsUnder_0 (q := 1) rfl ?_
    refine v_istore_2 hC rfl dX5_isOrIsUnder_1 (q := 2) rfl ?_
    refine v_iconst hC (v := 0) rfl dX5_isOrIsUnder_2 (q := 3) rfl ?_
    refine v_istore_3 hC rfl dX5_isOrIsUnder_3 (q := 4) rfl ?_
    refine v_iload_n hC rfl dX5_isOrIsUnder_4 (q := 5) rfl ?_
    refine v_bipush hC (v := 6) rfl dX5_isOrIsUnder_5 (q := 7) rfl ?_
    refine v_icmp_ge hC dX5_isOrIsUnder_7 (t := 36) rfl (q := 10) rfl (fun h => absurd h (by decide)) (fun _ => ?_)
    refine v_iload_n hC rfl dX5_isOrIsUnder_10 (q := 11) rfl ?_
    refine v_Si hC lkS_X5_51 c_X5_isKind rfl (by decide) rfl (Nat.le_of_ble_eq_true rfl) dX5_isOrIsUnder_11 (q := 14) rfl ?_
    rintro _ _ ⟨⟨hc11, rfl⟩ | ⟨hc11, rfl⟩, rfl⟩
    · refine v_if_eq hC dX5_isOrIsUnder_14 (t := 36) rfl (q := 17) rfl (fun h => absurd h (by decide)) (fun _ => ?_)
      refine v_iload_n hC rfl dX5_isOrIsUnder_17 (q := 18) rfl ?_
      refine v_iload_n hC rfl dX5_isOrIsUnder_18 (q := 19) rfl ?_
      refine v_icmp_ne hC dX5_isOrIsUnder_19 (t := 24) rfl (q := 22) rfl (fun h19 => ?_) (fun h19 => ?_)
      · have hn0 : ¬ (0 : Int32) = x := h19
        refine v_getKA hC wf_X5_262 dX5_isOrIsUnder_24 (q := 27) rfl ?_
        refine v_iload_n hC rfl dX5_isOrIsUnder_27 (q := 28) rfl ?_
        refine v_tKA hC (v := .int (-1)) (vp_l (by decide)) rfl dX5_isOrIsUnder_28 (q := 29) rfl ?_
        refine v_istore_2 hC rfl dX5_isOrIsUnder_29 (q := 30) rfl ?_
        refine v_iinc_3 hC (v := _ + 1) rfl rfl dX5_isOrIsUnder_30 (q := 33) rfl ?_
        refine v_goto hC dX5_isOrIsUnder_33 (t := 4) rfl ?_
        refine v_iload_n hC rfl dX5_isOrIsUnder_4 (q := 5) rfl ?_
        refine v_bipush hC (v := 6) rfl dX5_isOrIsUnder_5 (q := 7) rfl ?_
        refine v_icmp_ge hC dX5_isOrIsUnder_7 (t := 36) rfl (q := 10) rfl (fun h => absurd h (by decide)) (fun _ => ?_)
        refine v_iload_n hC rfl dX5_isOrIsUnder_10 (q := 11) rfl ?_
        refine v_Si hC lkS_X5_51 c_X5_isKind rfl (by decide) rfl (Nat.le_of_ble_eq_true rfl) dX5_isOrIsUnder_11 (q := 14) rfl ?_
        rintro _ _ ⟨⟨hc11, rfl⟩ | ⟨hc11, rfl⟩, rfl⟩
        · exact absurd hc11 (by decide)
        · refine v_if_eq hC dX5_isOrIsUnder_14 (t := 36) rfl (q := 17) rfl (fun _ => ?_) (fun h => absurd h (by decide))
          have hz : ¬ x = 0 := fun z => hn0 z.symm
          have hs : ¬ x = nI 0 := fun z => hn0 z.symm
          have h1 : x = 1 → ¬ nI 0 = 4 := fun _ => by decide
          have h2 : x = 2 → ¬ nI 0 = 5 := fun _ => by decide
          refine v_iconst hC (v := 0) rfl dX5_isOrIsUnder_36 (q := 37) rfl ?_
          refine hR _ _ _ _ ?_ (by first | rfl | decide | assumption) dX5_isOrIsUnder_37
          refine ⟨Or.inr ⟨?_, rfl⟩, rfl⟩
          rintro (z | z | ⟨z, z2⟩ | ⟨z, z2⟩)
          · exact hz z
          · exact hs z
          · exact h1 z z2
          · exact h2 z z2
      · refine v_iconst hC (v := 1) rfl dX5_isOrIsUnder_22 (q := 23) rfl ?_
        refine hR _ _ _ _ ?_ (by first | rfl | decide | assumption) dX5_isOrIsUnder_23
        refine ⟨Or.inl ⟨?_, rfl⟩, rfl⟩
        first | exact Or.inr (Or.inl h19.symm) | exact Or.inl h19.symm | exact Or.inr (Or.inr (Or.inl ⟨h19.symm, rfl⟩)) | exact Or.inr (Or.inr (Or.inr ⟨h19.symm, rfl⟩))
    · exact absurd (by decide) hc11
  · refine v_iload_n hC rfl dX5_isOrIsUnder_0 (q := 1) rfl ?_
    refine v_istore_2 hC rfl dX5_isOrIsUnder_1 (q := 2) rfl ?_
    refine v_iconst hC (v := 0) rfl dX5_isOrIsUnder_2 (q := 3) rfl ?_
    refine v_istore_3 hC rfl dX5_isOrIsUnder_3 (q := 4) rfl ?_
    refine v_iload_n hC rfl dX5_isOrIsUnder_4 (q := 5) rfl ?_
    refine v_bipush hC (v := 6) rfl dX5_isOrIsUnder_5 (q := 7) rfl ?_
    refine v_icmp_ge hC dX5_isOrIsUnder_7 (t := 36) rfl (q := 10) rfl (fun h => absurd h (by decide)) (fun _ => ?_)
    refine v_iload_n hC rfl dX5_isOrIsUnder_10 (q := 11) rfl ?_
    refine v_Si hC lkS_X5_51 c_X5_isKind rfl (by decide) rfl (Nat.le_of_ble_eq_true rfl) dX5_isOrIsUnder_11 (q := 14) rfl ?_
    rintro _ _ ⟨⟨hc11, rfl⟩ | ⟨hc11, rfl⟩, rfl⟩
    · refine v_if_eq hC dX5_isOrIsUnder_14 (t := 36) rfl (q := 17) rfl (fun h => absurd h (by decide)) (fun _ => ?_)
      refine v_iload_n hC rfl dX5_isOrIsUnder_17 (q := 18) rfl ?_
      refine v_iload_n hC rfl dX5_isOrIsUnder_18 (q := 19) rfl ?_
      refine v_icmp_ne hC dX5_isOrIsUnder_19 (t := 24) rfl (q := 22) rfl (fun h19 => ?_) (fun h19 => ?_)
      · have hn1 : ¬ (1 : Int32) = x := h19
        refine v_getKA hC wf_X5_262 dX5_isOrIsUnder_24 (q := 27) rfl ?_
        refine v_iload_n hC rfl dX5_isOrIsUnder_27 (q := 28) rfl ?_
        refine v_tKA hC (v := .int (0)) (vp_l (by decide)) rfl dX5_isOrIsUnder_28 (q := 29) rfl ?_
        refine v_istore_2 hC rfl dX5_isOrIsUnder_29 (q := 30) rfl ?_
        refine v_iinc_3 hC (v := _ + 1) rfl rfl dX5_isOrIsUnder_30 (q := 33) rfl ?_
        refine v_goto hC dX5_isOrIsUnder_33 (t := 4) rfl ?_
        refine v_iload_n hC rfl dX5_isOrIsUnder_4 (q := 5) rfl ?_
        refine v_bipush hC (v := 6) rfl dX5_isOrIsUnder_5 (q := 7) rfl ?_
        refine v_icmp_ge hC dX5_isOrIsUnder_7 (t := 36) rfl (q := 10) rfl (fun h => absurd h (by decide)) (fun _ => ?_)
        refine v_iload_n hC rfl dX5_isOrIsUnder_10 (q := 11) rfl ?_
        refine v_Si hC lkS_X5_51 c_X5_isKind rfl (by decide) rfl (Nat.le_of_ble_eq_true rfl) dX5_isOrIsUnder_11 (q := 14) rfl ?_
        rintro _ _ ⟨⟨hc11, rfl⟩ | ⟨hc11, rfl⟩, rfl⟩
        · refine v_if_eq hC dX5_isOrIsUnder_14 (t := 36) rfl (q := 17) rfl (fun h => absurd h (by decide)) (fun _ => ?_)
          refine v_iload_n hC rfl dX5_isOrIsUnder_17 (q := 18) rfl ?_
          refine v_iload_n hC rfl dX5_isOrIsUnder_18 (q := 19) rfl ?_
          refine v_icmp_ne hC dX5_isOrIsUnder_19 (t := 24) rfl (q := 22) rfl (fun h19 => ?_) (fun h19 => ?_)
          · have hn0 : ¬ (0 : Int32) = x := h19
            refine v_getKA hC wf_X5_262 dX5_isOrIsUnder_24 (q := 27) rfl ?_
            refine v_iload_n hC rfl dX5_isOrIsUnder_27 (q := 28) rfl ?_
            refine v_tKA hC (v := .int (-1)) (vp_l (by decide)) rfl dX5_isOrIsUnder_28 (q := 29) rfl ?_
            refine v_istore_2 hC rfl dX5_isOrIsUnder_29 (q := 30) rfl ?_
            refine v_iinc_3 hC (v := _ + 1) rfl rfl dX5_isOrIsUnder_30 (q := 33) rfl ?_
            refine v_goto hC dX5_isOrIsUnder_33 (t := 4) rfl ?_
            refine v_iload_n hC rfl dX5_isOrIsUnder_4 (q := 5) rfl ?_
            refine v_bipush hC (v := 6) rfl dX5_isOrIsUnder_5 (q := 7) rfl ?_
            refine v_icmp_ge hC dX5_isOrIsUnder_7 (t := 36) rfl (q := 10) rfl (fun h => absurd h (by decide)) (fun _ => ?_)
            refine v_iload_n hC rfl dX5_isOrIsUnder_10 (q := 11) rfl ?_
            refine v_Si hC lkS_X5_51 c_X5_isKind rfl (by decide) rfl (Nat.le_of_ble_eq_true rfl) dX5_isOrIsUnder_11 (q := 14) rfl ?_
            rintro _ _ ⟨⟨hc11, rfl⟩ | ⟨hc11, rfl⟩, rfl⟩
            · exact absurd hc11 (by decide)
            · refine v_if_eq hC dX5_isOrIsUnder_14 (t := 36) rfl (q := 17) rfl (fun _ => ?_) (fun h => absurd h (by decide))
              have hz : ¬ x = 0 := fun z => hn0 z.symm
              have hs : ¬ x = nI 1 := fun z => hn1 z.symm
              have h1 : x = 1 → ¬ nI 1 = 4 := fun _ => by decide
              have h2 : x = 2 → ¬ nI 1 = 5 := fun _ => by decide
              refine v_iconst hC (v := 0) rfl dX5_isOrIsUnder_36 (q := 37) rfl ?_
              refine hR _ _ _ _ ?_ (by first | rfl | decide | assumption) dX5_isOrIsUnder_37
              refine ⟨Or.inr ⟨?_, rfl⟩, rfl⟩
              rintro (z | z | ⟨z, z2⟩ | ⟨z, z2⟩)
              · exact hz z
              · exact hs z
              · exact h1 z z2
              · exact h2 z z2
          · refine v_iconst hC (v := 1) rfl dX5_isOrIsUnder_22 (q := 23) rfl ?_
            refine hR _ _ _ _ ?_ (by first | rfl | decide | assumption) dX5_isOrIsUnder_23
            refine ⟨Or.inl ⟨?_, rfl⟩, rfl⟩
            first | exact Or.inr (Or.inl h19.symm) | exact Or.inl h19.symm | exact Or.inr (Or.inr (Or.inl ⟨h19.symm, rfl⟩)) | exact Or.inr (Or.inr (Or.inr ⟨h19.symm, rfl⟩))
        · exact absurd (by decide) hc11
      · refine v_iconst hC (v := 1) rfl dX5_isOrIsUnder_22 (q := 23) rfl ?_
        refine hR _ _ _ _ ?_ (by first | rfl | decide | assumption) dX5_isOrIsUnder_23
        refine ⟨Or.inl ⟨?_, rfl⟩, rfl⟩
        first | exact Or.inr (Or.inl h19.symm) | exact Or.inl h19.symm | exact Or.inr (Or.inr (Or.inl ⟨h19.symm, rfl⟩)) | exact Or.inr (Or.inr (Or.inr ⟨h19.symm, rfl⟩))
    · exact absurd (by decide) hc11
  · refine v_iload_n hC rfl dX5_isOrIsUnder_0 (q := 1) rfl ?_
    refine v_istore_2 hC rfl dX5_isOrIsUnder_1 (q := 2) rfl ?_
    refine v_iconst hC (v := 0) rfl dX5_isOrIsUnder_2 (q := 3) rfl ?_
    refine v_istore_3 hC rfl dX5_isOrIsUnder_3 (q := 4) rfl ?_
    refine v_iload_n hC rfl dX5_isOrIsUnder_4 (q := 5) rfl ?_
    refine v_bipush hC (v := 6) rfl dX5_isOrIsUnder_5 (q := 7) rfl ?_
    refine v_icmp_ge hC dX5_isOrIsUnder_7 (t := 36) rfl (q := 10) rfl (fun h => absurd h (by decide)) (fun _ => ?_)
    refine v_iload_n hC rfl dX5_isOrIsUnder_10 (q := 11) rfl ?_
    refine v_Si hC lkS_X5_51 c_X5_isKind rfl (by decide) rfl (Nat.le_of_ble_eq_true rfl) dX5_isOrIsUnder_11 (q := 14) rfl ?_
    rintro _ _ ⟨⟨hc11, rfl⟩ | ⟨hc11, rfl⟩, rfl⟩
    · refine v_if_eq hC dX5_isOrIsUnder_14 (t := 36) rfl (q := 17) rfl (fun h => absurd h (by decide)) (fun _ => ?_)
      refine v_iload_n hC rfl dX5_isOrIsUnder_17 (q := 18) rfl ?_
      refine v_iload_n hC rfl dX5_isOrIsUnder_18 (q := 19) rfl ?_
      refine v_icmp_ne hC dX5_isOrIsUnder_19 (t := 24) rfl (q := 22) rfl (fun h19 => ?_) (fun h19 => ?_)
      · have hn2 : ¬ (2 : Int32) = x := h19
        refine v_getKA hC wf_X5_262 dX5_isOrIsUnder_24 (q := 27) rfl ?_
        refine v_iload_n hC rfl dX5_isOrIsUnder_27 (q := 28) rfl ?_
        refine v_tKA hC (v := .int (0)) (vp_l (by decide)) rfl dX5_isOrIsUnder_28 (q := 29) rfl ?_
        refine v_istore_2 hC rfl dX5_isOrIsUnder_29 (q := 30) rfl ?_
        refine v_iinc_3 hC (v := _ + 1) rfl rfl dX5_isOrIsUnder_30 (q := 33) rfl ?_
        refine v_goto hC dX5_isOrIsUnder_33 (t := 4) rfl ?_
        refine v_iload_n hC rfl dX5_isOrIsUnder_4 (q := 5) rfl ?_
        refine v_bipush hC (v := 6) rfl dX5_isOrIsUnder_5 (q := 7) rfl ?_
        refine v_icmp_ge hC dX5_isOrIsUnder_7 (t := 36) rfl (q := 10) rfl (fun h => absurd h (by decide)) (fun _ => ?_)
        refine v_iload_n hC rfl dX5_isOrIsUnder_10 (q := 11) rfl ?_
        refine v_Si hC lkS_X5_51 c_X5_isKind rfl (by decide) rfl (Nat.le_of_ble_eq_true rfl) dX5_isOrIsUnder_11 (q := 14) rfl ?_
        rintro _ _ ⟨⟨hc11, rfl⟩ | ⟨hc11, rfl⟩, rfl⟩
        · refine v_if_eq hC dX5_isOrIsUnder_14 (t := 36) rfl (q := 17) rfl (fun h => absurd h (by decide)) (fun _ => ?_)
          refine v_iload_n hC rfl dX5_isOrIsUnder_17 (q := 18) rfl ?_
          refine v_iload_n hC rfl dX5_isOrIsUnder_18 (q := 19) rfl ?_
          refine v_icmp_ne hC dX5_isOrIsUnder_19 (t := 24) rfl (q := 22) rfl (fun h19 => ?_) (fun h19 => ?_)
          · have hn0 : ¬ (0 : Int32) = x := h19
            refine v_getKA hC wf_X5_262 dX5_isOrIsUnder_24 (q := 27) rfl ?_
            refine v_iload_n hC rfl dX5_isOrIsUnder_27 (q := 28) rfl ?_
            refine v_tKA hC (v := .int (-1)) (vp_l (by decide)) rfl dX5_isOrIsUnder_28 (q := 29) rfl ?_
            refine v_istore_2 hC rfl dX5_isOrIsUnder_29 (q := 30) rfl ?_
            refine v_iinc_3 hC (v := _ + 1) rfl rfl dX5_isOrIsUnder_30 (q := 33) rfl ?_
            refine v_goto hC dX5_isOrIsUnder_33 (t := 4) rfl ?_
            refine v_iload_n hC rfl dX5_isOrIsUnder_4 (q := 5) rfl ?_
            refine v_bipush hC (v := 6) rfl dX5_isOrIsUnder_5 (q := 7) rfl ?_
            refine v_icmp_ge hC dX5_isOrIsUnder_7 (t := 36) rfl (q := 10) rfl (fun h => absurd h (by decide)) (fun _ => ?_)
            refine v_iload_n hC rfl dX5_isOrIsUnder_10 (q := 11) rfl ?_
            refine v_Si hC lkS_X5_51 c_X5_isKind rfl (by decide) rfl (Nat.le_of_ble_eq_true rfl) dX5_isOrIsUnder_11 (q := 14) rfl ?_
            rintro _ _ ⟨⟨hc11, rfl⟩ | ⟨hc11, rfl⟩, rfl⟩
            · exact absurd hc11 (by decide)
            · refine v_if_eq hC dX5_isOrIsUnder_14 (t := 36) rfl (q := 17) rfl (fun _ => ?_) (fun h => absurd h (by decide))
              have hz : ¬ x = 0 := fun z => hn0 z.symm
              have hs : ¬ x = nI 2 := fun z => hn2 z.symm
              have h1 : x = 1 → ¬ nI 2 = 4 := fun _ => by decide
              have h2 : x = 2 → ¬ nI 2 = 5 := fun _ => by decide
              refine v_iconst hC (v := 0) rfl dX5_isOrIsUnder_36 (q := 37) rfl ?_
              refine hR _ _ _ _ ?_ (by first | rfl | decide | assumption) dX5_isOrIsUnder_37
              refine ⟨Or.inr ⟨?_, rfl⟩, rfl⟩
              rintro (z | z | ⟨z, z2⟩ | ⟨z, z2⟩)
              · exact hz z
              · exact hs z
              · exact h1 z z2
              · exact h2 z z2
          · refine v_iconst hC (v := 1) rfl dX5_isOrIsUnder_22 (q := 23) rfl ?_
            refine hR _ _ _ _ ?_ (by first | rfl | decide | assumption) dX5_isOrIsUnder_23
            refine ⟨Or.inl ⟨?_, rfl⟩, rfl⟩
            first | exact Or.inr (Or.inl h19.symm) | exact Or.inl h19.symm | exact Or.inr (Or.inr (Or.inl ⟨h19.symm, rfl⟩)) | exact Or.inr (Or.inr (Or.inr ⟨h19.symm, rfl⟩))
        · exact absurd (by decide) hc11
      · refine v_iconst hC (v := 1) rfl dX5_isOrIsUnder_22 (q := 23) rfl ?_
        refine hR _ _ _ _ ?_ (by first | rfl | decide | assumption) dX5_isOrIsUnder_23
        refine ⟨Or.inl ⟨?_, rfl⟩, rfl⟩
        first | exact Or.inr (Or.inl h19.symm) | exact Or.inl h19.symm | exact Or.inr (Or.inr (Or.inl ⟨h19.symm, rfl⟩)) | exact Or.inr (Or.inr (Or.inr ⟨h19.symm, rfl⟩))
    · exact absurd (by decide) hc11
  · refine v_iload_n hC rfl dX5_isOrIsUnder_0 (q := 1) rfl ?_
    refine v_istore_2 hC rfl dX5_isOrIsUnder_1 (q := 2) rfl ?_
    refine v_iconst hC (v := 0) rfl dX5_isOrIsUnder_2 (q := 3) rfl ?_
    refine v_istore_3 hC rfl dX5_isOrIsUnder_3 (q := 4) rfl ?_
    refine v_iload_n hC rfl dX5_isOrIsUnder_4 (q := 5) rfl ?_
    refine v_bipush hC (v := 6) rfl dX5_isOrIsUnder_5 (q := 7) rfl ?_
    refine v_icmp_ge hC dX5_isOrIsUnder_7 (t := 36) rfl (q := 10) rfl (fun h => absurd h (by decide)) (fun _ => ?_)
    refine v_iload_n hC rfl dX5_isOrIsUnder_10 (q := 11) rfl ?_
    refine v_Si hC lkS_X5_51 c_X5_isKind rfl (by decide) rfl (Nat.le_of_ble_eq_true rfl) dX5_isOrIsUnder_11 (q := 14) rfl ?_
    rintro _ _ ⟨⟨hc11, rfl⟩ | ⟨hc11, rfl⟩, rfl⟩
    · refine v_if_eq hC dX5_isOrIsUnder_14 (t := 36) rfl (q := 17) rfl (fun h => absurd h (by decide)) (fun _ => ?_)
      refine v_iload_n hC rfl dX5_isOrIsUnder_17 (q := 18) rfl ?_
      refine v_iload_n hC rfl dX5_isOrIsUnder_18 (q := 19) rfl ?_
      refine v_icmp_ne hC dX5_isOrIsUnder_19 (t := 24) rfl (q := 22) rfl (fun h19 => ?_) (fun h19 => ?_)
      · have hn3 : ¬ (3 : Int32) = x := h19
        refine v_getKA hC wf_X5_262 dX5_isOrIsUnder_24 (q := 27) rfl ?_
        refine v_iload_n hC rfl dX5_isOrIsUnder_27 (q := 28) rfl ?_
        refine v_tKA hC (v := .int (0)) (vp_l (by decide)) rfl dX5_isOrIsUnder_28 (q := 29) rfl ?_
        refine v_istore_2 hC rfl dX5_isOrIsUnder_29 (q := 30) rfl ?_
        refine v_iinc_3 hC (v := _ + 1) rfl rfl dX5_isOrIsUnder_30 (q := 33) rfl ?_
        refine v_goto hC dX5_isOrIsUnder_33 (t := 4) rfl ?_
        refine v_iload_n hC rfl dX5_isOrIsUnder_4 (q := 5) rfl ?_
        refine v_bipush hC (v := 6) rfl dX5_isOrIsUnder_5 (q := 7) rfl ?_
        refine v_icmp_ge hC dX5_isOrIsUnder_7 (t := 36) rfl (q := 10) rfl (fun h => absurd h (by decide)) (fun _ => ?_)
        refine v_iload_n hC rfl dX5_isOrIsUnder_10 (q := 11) rfl ?_
        refine v_Si hC lkS_X5_51 c_X5_isKind rfl (by decide) rfl (Nat.le_of_ble_eq_true rfl) dX5_isOrIsUnder_11 (q := 14) rfl ?_
        rintro _ _ ⟨⟨hc11, rfl⟩ | ⟨hc11, rfl⟩, rfl⟩
        · refine v_if_eq hC dX5_isOrIsUnder_14 (t := 36) rfl (q := 17) rfl (fun h => absurd h (by decide)) (fun _ => ?_)
          refine v_iload_n hC rfl dX5_isOrIsUnder_17 (q := 18) rfl ?_
          refine v_iload_n hC rfl dX5_isOrIsUnder_18 (q := 19) rfl ?_
          refine v_icmp_ne hC dX5_isOrIsUnder_19 (t := 24) rfl (q := 22) rfl (fun h19 => ?_) (fun h19 => ?_)
          · have hn0 : ¬ (0 : Int32) = x := h19
            refine v_getKA hC wf_X5_262 dX5_isOrIsUnder_24 (q := 27) rfl ?_
            refine v_iload_n hC rfl dX5_isOrIsUnder_27 (q := 28) rfl ?_
            refine v_tKA hC (v := .int (-1)) (vp_l (by decide)) rfl dX5_isOrIsUnder_28 (q := 29) rfl ?_
            refine v_istore_2 hC rfl dX5_isOrIsUnder_29 (q := 30) rfl ?_
            refine v_iinc_3 hC (v := _ + 1) rfl rfl dX5_isOrIsUnder_30 (q := 33) rfl ?_
            refine v_goto hC dX5_isOrIsUnder_33 (t := 4) rfl ?_
            refine v_iload_n hC rfl dX5_isOrIsUnder_4 (q := 5) rfl ?_
            refine v_bipush hC (v := 6) rfl dX5_isOrIsUnder_5 (q := 7) rfl ?_
            refine v_icmp_ge hC dX5_isOrIsUnder_7 (t := 36) rfl (q := 10) rfl (fun h => absurd h (by decide)) (fun _ => ?_)
            refine v_iload_n hC rfl dX5_isOrIsUnder_10 (q := 11) rfl ?_
            refine v_Si hC lkS_X5_51 c_X5_isKind rfl (by decide) rfl (Nat.le_of_ble_eq_true rfl) dX5_isOrIsUnder_11 (q := 14) rfl ?_
            rintro _ _ ⟨⟨hc11, rfl⟩ | ⟨hc11, rfl⟩, rfl⟩
            · exact absurd hc11 (by decide)
            · refine v_if_eq hC dX5_isOrIsUnder_14 (t := 36) rfl (q := 17) rfl (fun _ => ?_) (fun h => absurd h (by decide))
              have hz : ¬ x = 0 := fun z => hn0 z.symm
              have hs : ¬ x = nI 3 := fun z => hn3 z.symm
              have h1 : x = 1 → ¬ nI 3 = 4 := fun _ => by decide
              have h2 : x = 2 → ¬ nI 3 = 5 := fun _ => by decide
              refine v_iconst hC (v := 0) rfl dX5_isOrIsUnder_36 (q := 37) rfl ?_
              refine hR _ _ _ _ ?_ (by first | rfl | decide | assumption) dX5_isOrIsUnder_37
              refine ⟨Or.inr ⟨?_, rfl⟩, rfl⟩
              rintro (z | z | ⟨z, z2⟩ | ⟨z, z2⟩)
              · exact hz z
              · exact hs z
              · exact h1 z z2
              · exact h2 z z2
          · refine v_iconst hC (v := 1) rfl dX5_isOrIsUnder_22 (q := 23) rfl ?_
            refine hR _ _ _ _ ?_ (by first | rfl | decide | assumption) dX5_isOrIsUnder_23
            refine ⟨Or.inl ⟨?_, rfl⟩, rfl⟩
            first | exact Or.inr (Or.inl h19.symm) | exact Or.inl h19.symm | exact Or.inr (Or.inr (Or.inl ⟨h19.symm, rfl⟩)) | exact Or.inr (Or.inr (Or.inr ⟨h19.symm, rfl⟩))
        · exact absurd (by decide) hc11
      · refine v_iconst hC (v := 1) rfl dX5_isOrIsUnder_22 (q := 23) rfl ?_
        refine hR _ _ _ _ ?_ (by first | rfl | decide | assumption) dX5_isOrIsUnder_23
        refine ⟨Or.inl ⟨?_, rfl⟩, rfl⟩
        first | exact Or.inr (Or.inl h19.symm) | exact Or.inl h19.symm | exact Or.inr (Or.inr (Or.inl ⟨h19.symm, rfl⟩)) | exact Or.inr (Or.inr (Or.inr ⟨h19.symm, rfl⟩))
    · exact absurd (by decide) hc11
  · refine v_iload_n hC rfl dX5_isOrIsUnder_0 (q := 1) rfl ?_
    refine v_istore_2 hC rfl dX5_isOrIsUnder_1 (q := 2) rfl ?_
    refine v_iconst hC (v := 0) rfl dX5_isOrIsUnder_2 (q := 3) rfl ?_
    refine v_istore_3 hC rfl dX5_isOrIsUnder_3 (q := 4) rfl ?_
    refine v_iload_n hC rfl dX5_isOrIsUnder_4 (q := 5) rfl ?_
    refine v_bipush hC (v := 6) rfl dX5_isOrIsUnder_5 (q := 7) rfl ?_
    refine v_icmp_ge hC dX5_isOrIsUnder_7 (t := 36) rfl (q := 10) rfl (fun h => absurd h (by decide)) (fun _ => ?_)
    refine v_iload_n hC rfl dX5_isOrIsUnder_10 (q := 11) rfl ?_
    refine v_Si hC lkS_X5_51 c_X5_isKind rfl (by decide) rfl (Nat.le_of_ble_eq_true rfl) dX5_isOrIsUnder_11 (q := 14) rfl ?_
    rintro _ _ ⟨⟨hc11, rfl⟩ | ⟨hc11, rfl⟩, rfl⟩
    · refine v_if_eq hC dX5_isOrIsUnder_14 (t := 36) rfl (q := 17) rfl (fun h => absurd h (by decide)) (fun _ => ?_)
      refine v_iload_n hC rfl dX5_isOrIsUnder_17 (q := 18) rfl ?_
      refine v_iload_n hC rfl dX5_isOrIsUnder_18 (q := 19) rfl ?_
      refine v_icmp_ne hC dX5_isOrIsUnder_19 (t := 24) rfl (q := 22) rfl (fun h19 => ?_) (fun h19 => ?_)
      · have hn4 : ¬ (4 : Int32) = x := h19
        refine v_getKA hC wf_X5_262 dX5_isOrIsUnder_24 (q := 27) rfl ?_
        refine v_iload_n hC rfl dX5_isOrIsUnder_27 (q := 28) rfl ?_
        refine v_tKA hC (v := .int (1)) (vp_l (by decide)) rfl dX5_isOrIsUnder_28 (q := 29) rfl ?_
        refine v_istore_2 hC rfl dX5_isOrIsUnder_29 (q := 30) rfl ?_
        refine v_iinc_3 hC (v := _ + 1) rfl rfl dX5_isOrIsUnder_30 (q := 33) rfl ?_
        refine v_goto hC dX5_isOrIsUnder_33 (t := 4) rfl ?_
        refine v_iload_n hC rfl dX5_isOrIsUnder_4 (q := 5) rfl ?_
        refine v_bipush hC (v := 6) rfl dX5_isOrIsUnder_5 (q := 7) rfl ?_
        refine v_icmp_ge hC dX5_isOrIsUnder_7 (t := 36) rfl (q := 10) rfl (fun h => absurd h (by decide)) (fun _ => ?_)
        refine v_iload_n hC rfl dX5_isOrIsUnder_10 (q := 11) rfl ?_
        refine v_Si hC lkS_X5_51 c_X5_isKind rfl (by decide) rfl (Nat.le_of_ble_eq_true rfl) dX5_isOrIsUnder_11 (q := 14) rfl ?_
        rintro _ _ ⟨⟨hc11, rfl⟩ | ⟨hc11, rfl⟩, rfl⟩
        · refine v_if_eq hC dX5_isOrIsUnder_14 (t := 36) rfl (q := 17) rfl (fun h => absurd h (by decide)) (fun _ => ?_)
          refine v_iload_n hC rfl dX5_isOrIsUnder_17 (q := 18) rfl ?_
          refine v_iload_n hC rfl dX5_isOrIsUnder_18 (q := 19) rfl ?_
          refine v_icmp_ne hC dX5_isOrIsUnder_19 (t := 24) rfl (q := 22) rfl (fun h19 => ?_) (fun h19 => ?_)
          · have hn1 : ¬ (1 : Int32) = x := h19
            refine v_getKA hC wf_X5_262 dX5_isOrIsUnder_24 (q := 27) rfl ?_
            refine v_iload_n hC rfl dX5_isOrIsUnder_27 (q := 28) rfl ?_
            refine v_tKA hC (v := .int (0)) (vp_l (by decide)) rfl dX5_isOrIsUnder_28 (q := 29) rfl ?_
            refine v_istore_2 hC rfl dX5_isOrIsUnder_29 (q := 30) rfl ?_
            refine v_iinc_3 hC (v := _ + 1) rfl rfl dX5_isOrIsUnder_30 (q := 33) rfl ?_
            refine v_goto hC dX5_isOrIsUnder_33 (t := 4) rfl ?_
            refine v_iload_n hC rfl dX5_isOrIsUnder_4 (q := 5) rfl ?_
            refine v_bipush hC (v := 6) rfl dX5_isOrIsUnder_5 (q := 7) rfl ?_
            refine v_icmp_ge hC dX5_isOrIsUnder_7 (t := 36) rfl (q := 10) rfl (fun h => absurd h (by decide)) (fun _ => ?_)
            refine v_iload_n hC rfl dX5_isOrIsUnder_10 (q := 11) rfl ?_
            refine v_Si hC lkS_X5_51 c_X5_isKind rfl (by decide) rfl (Nat.le_of_ble_eq_true rfl) dX5_isOrIsUnder_11 (q := 14) rfl ?_
            rintro _ _ ⟨⟨hc11, rfl⟩ | ⟨hc11, rfl⟩, rfl⟩
            · refine v_if_eq hC dX5_isOrIsUnder_14 (t := 36) rfl (q := 17) rfl (fun h => absurd h (by decide)) (fun _ => ?_)
              refine v_iload_n hC rfl dX5_isOrIsUnder_17 (q := 18) rfl ?_
              refine v_iload_n hC rfl dX5_isOrIsUnder_18 (q := 19) rfl ?_
              refine v_icmp_ne hC dX5_isOrIsUnder_19 (t := 24) rfl (q := 22) rfl (fun h19 => ?_) (fun h19 => ?_)
              · have hn0 : ¬ (0 : Int32) = x := h19
                refine v_getKA hC wf_X5_262 dX5_isOrIsUnder_24 (q := 27) rfl ?_
                refine v_iload_n hC rfl dX5_isOrIsUnder_27 (q := 28) rfl ?_
                refine v_tKA hC (v := .int (-1)) (vp_l (by decide)) rfl dX5_isOrIsUnder_28 (q := 29) rfl ?_
                refine v_istore_2 hC rfl dX5_isOrIsUnder_29 (q := 30) rfl ?_
                refine v_iinc_3 hC (v := _ + 1) rfl rfl dX5_isOrIsUnder_30 (q := 33) rfl ?_
                refine v_goto hC dX5_isOrIsUnder_33 (t := 4) rfl ?_
                refine v_iload_n hC rfl dX5_isOrIsUnder_4 (q := 5) rfl ?_
                refine v_bipush hC (v := 6) rfl dX5_isOrIsUnder_5 (q := 7) rfl ?_
                refine v_icmp_ge hC dX5_isOrIsUnder_7 (t := 36) rfl (q := 10) rfl (fun h => absurd h (by decide)) (fun _ => ?_)
                refine v_iload_n hC rfl dX5_isOrIsUnder_10 (q := 11) rfl ?_
                refine v_Si hC lkS_X5_51 c_X5_isKind rfl (by decide) rfl (Nat.le_of_ble_eq_true rfl) dX5_isOrIsUnder_11 (q := 14) rfl ?_
                rintro _ _ ⟨⟨hc11, rfl⟩ | ⟨hc11, rfl⟩, rfl⟩
                · exact absurd hc11 (by decide)
                · refine v_if_eq hC dX5_isOrIsUnder_14 (t := 36) rfl (q := 17) rfl (fun _ => ?_) (fun h => absurd h (by decide))
                  have hz : ¬ x = 0 := fun z => hn0 z.symm
                  have hs : ¬ x = nI 4 := fun z => hn4 z.symm
                  have h1 : x = 1 → ¬ nI 4 = 4 := fun z => absurd z.symm hn1
                  have h2 : x = 2 → ¬ nI 4 = 5 := fun _ => by decide
                  refine v_iconst hC (v := 0) rfl dX5_isOrIsUnder_36 (q := 37) rfl ?_
                  refine hR _ _ _ _ ?_ (by first | rfl | decide | assumption) dX5_isOrIsUnder_37
                  refine ⟨Or.inr ⟨?_, rfl⟩, rfl⟩
                  rintro (z | z | ⟨z, z2⟩ | ⟨z, z2⟩)
                  · exact hz z
                  · exact hs z
                  · exact h1 z z2
                  · exact h2 z z2
              · refine v_iconst hC (v := 1) rfl dX5_isOrIsUnder_22 (q := 23) rfl ?_
                refine hR _ _ _ _ ?_ (by first | rfl | decide | assumption) dX5_isOrIsUnder_23
                refine ⟨Or.inl ⟨?_, rfl⟩, rfl⟩
                first | exact Or.inr (Or.inl h19.symm) | exact Or.inl h19.symm | exact Or.inr (Or.inr (Or.inl ⟨h19.symm, rfl⟩)) | exact Or.inr (Or.inr (Or.inr ⟨h19.symm, rfl⟩))
            · exact absurd (by decide) hc11
          · refine v_iconst hC (v := 1) rfl dX5_isOrIsUnder_22 (q := 23) rfl ?_
            refine hR _ _ _ _ ?_ (by first | rfl | decide | assumption) dX5_isOrIsUnder_23
            refine ⟨Or.inl ⟨?_, rfl⟩, rfl⟩
            first | exact Or.inr (Or.inl h19.symm) | exact Or.inl h19.symm | exact Or.inr (Or.inr (Or.inl ⟨h19.symm, rfl⟩)) | exact Or.inr (Or.inr (Or.inr ⟨h19.symm, rfl⟩))
        · exact absurd (by decide) hc11
      · refine v_iconst hC (v := 1) rfl dX5_isOrIsUnder_22 (q := 23) rfl ?_
        refine hR _ _ _ _ ?_ (by first | rfl | decide | assumption) dX5_isOrIsUnder_23
        refine ⟨Or.inl ⟨?_, rfl⟩, rfl⟩
        first | exact Or.inr (Or.inl h19.symm) | exact Or.inl h19.symm | exact Or.inr (Or.inr (Or.inl ⟨h19.symm, rfl⟩)) | exact Or.inr (Or.inr (Or.inr ⟨h19.symm, rfl⟩))
    · exact absurd (by decide) hc11
  · refine v_iload_n hC rfl dX5_isOrIsUnder_0 (q := 1) rfl ?_
    refine v_istore_2 hC rfl dX5_isOrIsUnder_1 (q := 2) rfl ?_
    refine v_iconst hC (v := 0) rfl dX5_isOrIsUnder_2 (q := 3) rfl ?_
    refine v_istore_3 hC rfl dX5_isOrIsUnder_3 (q := 4) rfl ?_
    refine v_iload_n hC rfl dX5_isOrIsUnder_4 (q := 5) rfl ?_
    refine v_bipush hC (v := 6) rfl dX5_isOrIsUnder_5 (q := 7) rfl ?_
    refine v_icmp_ge hC dX5_isOrIsUnder_7 (t := 36) rfl (q := 10) rfl (fun h => absurd h (by decide)) (fun _ => ?_)
    refine v_iload_n hC rfl dX5_isOrIsUnder_10 (q := 11) rfl ?_
    refine v_Si hC lkS_X5_51 c_X5_isKind rfl (by decide) rfl (Nat.le_of_ble_eq_true rfl) dX5_isOrIsUnder_11 (q := 14) rfl ?_
    rintro _ _ ⟨⟨hc11, rfl⟩ | ⟨hc11, rfl⟩, rfl⟩
    · refine v_if_eq hC dX5_isOrIsUnder_14 (t := 36) rfl (q := 17) rfl (fun h => absurd h (by decide)) (fun _ => ?_)
      refine v_iload_n hC rfl dX5_isOrIsUnder_17 (q := 18) rfl ?_
      refine v_iload_n hC rfl dX5_isOrIsUnder_18 (q := 19) rfl ?_
      refine v_icmp_ne hC dX5_isOrIsUnder_19 (t := 24) rfl (q := 22) rfl (fun h19 => ?_) (fun h19 => ?_)
      · have hn5 : ¬ (5 : Int32) = x := h19
        refine v_getKA hC wf_X5_262 dX5_isOrIsUnder_24 (q := 27) rfl ?_
        refine v_iload_n hC rfl dX5_isOrIsUnder_27 (q := 28) rfl ?_
        refine v_tKA hC (v := .int (2)) (vp_l (by decide)) rfl dX5_isOrIsUnder_28 (q := 29) rfl ?_
        refine v_istore_2 hC rfl dX5_isOrIsUnder_29 (q := 30) rfl ?_
        refine v_iinc_3 hC (v := _ + 1) rfl rfl dX5_isOrIsUnder_30 (q := 33) rfl ?_
        refine v_goto hC dX5_isOrIsUnder_33 (t := 4) rfl ?_
        refine v_iload_n hC rfl dX5_isOrIsUnder_4 (q := 5) rfl ?_
        refine v_bipush hC (v := 6) rfl dX5_isOrIsUnder_5 (q := 7) rfl ?_
        refine v_icmp_ge hC dX5_isOrIsUnder_7 (t := 36) rfl (q := 10) rfl (fun h => absurd h (by decide)) (fun _ => ?_)
        refine v_iload_n hC rfl dX5_isOrIsUnder_10 (q := 11) rfl ?_
        refine v_Si hC lkS_X5_51 c_X5_isKind rfl (by decide) rfl (Nat.le_of_ble_eq_true rfl) dX5_isOrIsUnder_11 (q := 14) rfl ?_
        rintro _ _ ⟨⟨hc11, rfl⟩ | ⟨hc11, rfl⟩, rfl⟩
        · refine v_if_eq hC dX5_isOrIsUnder_14 (t := 36) rfl (q := 17) rfl (fun h => absurd h (by decide)) (fun _ => ?_)
          refine v_iload_n hC rfl dX5_isOrIsUnder_17 (q := 18) rfl ?_
          refine v_iload_n hC rfl dX5_isOrIsUnder_18 (q := 19) rfl ?_
          refine v_icmp_ne hC dX5_isOrIsUnder_19 (t := 24) rfl (q := 22) rfl (fun h19 => ?_) (fun h19 => ?_)
          · have hn2 : ¬ (2 : Int32) = x := h19
            refine v_getKA hC wf_X5_262 dX5_isOrIsUnder_24 (q := 27) rfl ?_
            refine v_iload_n hC rfl dX5_isOrIsUnder_27 (q := 28) rfl ?_
            refine v_tKA hC (v := .int (0)) (vp_l (by decide)) rfl dX5_isOrIsUnder_28 (q := 29) rfl ?_
            refine v_istore_2 hC rfl dX5_isOrIsUnder_29 (q := 30) rfl ?_
            refine v_iinc_3 hC (v := _ + 1) rfl rfl dX5_isOrIsUnder_30 (q := 33) rfl ?_
            refine v_goto hC dX5_isOrIsUnder_33 (t := 4) rfl ?_
            refine v_iload_n hC rfl dX5_isOrIsUnder_4 (q := 5) rfl ?_
            refine v_bipush hC (v := 6) rfl dX5_isOrIsUnder_5 (q := 7) rfl ?_
            refine v_icmp_ge hC dX5_isOrIsUnder_7 (t := 36) rfl (q := 10) rfl (fun h => absurd h (by decide)) (fun _ => ?_)
            refine v_iload_n hC rfl dX5_isOrIsUnder_10 (q := 11) rfl ?_
            refine v_Si hC lkS_X5_51 c_X5_isKind rfl (by decide) rfl (Nat.le_of_ble_eq_true rfl) dX5_isOrIsUnder_11 (q := 14) rfl ?_
            rintro _ _ ⟨⟨hc11, rfl⟩ | ⟨hc11, rfl⟩, rfl⟩
            · refine v_if_eq hC dX5_isOrIsUnder_14 (t := 36) rfl (q := 17) rfl (fun h => absurd h (by decide)) (fun _ => ?_)
              refine v_iload_n hC rfl dX5_isOrIsUnder_17 (q := 18) rfl ?_
              refine v_iload_n hC rfl dX5_isOrIsUnder_18 (q := 19) rfl ?_
              refine v_icmp_ne hC dX5_isOrIsUnder_19 (t := 24) rfl (q := 22) rfl (fun h19 => ?_) (fun h19 => ?_)
              · have hn0 : ¬ (0 : Int32) = x := h19
                refine v_getKA hC wf_X5_262 dX5_isOrIsUnder_24 (q := 27) rfl ?_
                refine v_iload_n hC rfl dX5_isOrIsUnder_27 (q := 28) rfl ?_
                refine v_tKA hC (v := .int (-1)) (vp_l (by decide)) rfl dX5_isOrIsUnder_28 (q := 29) rfl ?_
                refine v_istore_2 hC rfl dX5_isOrIsUnder_29 (q := 30) rfl ?_
                refine v_iinc_3 hC (v := _ + 1) rfl rfl dX5_isOrIsUnder_30 (q := 33) rfl ?_
                refine v_goto hC dX5_isOrIsUnder_33 (t := 4) rfl ?_
                refine v_iload_n hC rfl dX5_isOrIsUnder_4 (q := 5) rfl ?_
                refine v_bipush hC (v := 6) rfl dX5_isOrIsUnder_5 (q := 7) rfl ?_
                refine v_icmp_ge hC dX5_isOrIsUnder_7 (t := 36) rfl (q := 10) rfl (fun h => absurd h (by decide)) (fun _ => ?_)
                refine v_iload_n hC rfl dX5_isOrIsUnder_10 (q := 11) rfl ?_
                refine v_Si hC lkS_X5_51 c_X5_isKind rfl (by decide) rfl (Nat.le_of_ble_eq_true rfl) dX5_isOrIsUnder_11 (q := 14) rfl ?_
                rintro _ _ ⟨⟨hc11, rfl⟩ | ⟨hc11, rfl⟩, rfl⟩
                · exact absurd hc11 (by decide)
                · refine v_if_eq hC dX5_isOrIsUnder_14 (t := 36) rfl (q := 17) rfl (fun _ => ?_) (fun h => absurd h (by decide))
                  have hz : ¬ x = 0 := fun z => hn0 z.symm
                  have hs : ¬ x = nI 5 := fun z => hn5 z.symm
                  have h1 : x = 1 → ¬ nI 5 = 4 := fun _ => by decide
                  have h2 : x = 2 → ¬ nI 5 = 5 := fun z => absurd z.symm hn2
                  refine v_iconst hC (v := 0) rfl dX5_isOrIsUnder_36 (q := 37) rfl ?_
                  refine hR _ _ _ _ ?_ (by first | rfl | decide | assumption) dX5_isOrIsUnder_37
                  refine ⟨Or.inr ⟨?_, rfl⟩, rfl⟩
                  rintro (z | z | ⟨z, z2⟩ | ⟨z, z2⟩)
                  · exact hz z
                  · exact hs z
                  · exact h1 z z2
                  · exact h2 z z2
              · refine v_iconst hC (v := 1) rfl dX5_isOrIsUnder_22 (q := 23) rfl ?_
                refine hR _ _ _ _ ?_ (by first | rfl | decide | assumption) dX5_isOrIsUnder_23
                refine ⟨Or.inl ⟨?_, rfl⟩, rfl⟩
                first | exact Or.inr (Or.inl h19.symm) | exact Or.inl h19.symm | exact Or.inr (Or.inr (Or.inl ⟨h19.symm, rfl⟩)) | exact Or.inr (Or.inr (Or.inr ⟨h19.symm, rfl⟩))
            · exact absurd (by decide) hc11
          · refine v_iconst hC (v := 1) rfl dX5_isOrIsUnder_22 (q := 23) rfl ?_
            refine hR _ _ _ _ ?_ (by first | rfl | decide | assumption) dX5_isOrIsUnder_23
            refine ⟨Or.inl ⟨?_, rfl⟩, rfl⟩
            first | exact Or.inr (Or.inl h19.symm) | exact Or.inl h19.symm | exact Or.inr (Or.inr (Or.inl ⟨h19.symm, rfl⟩)) | exact Or.inr (Or.inr (Or.inr ⟨h19.symm, rfl⟩))
        · exact absurd (by decide) hc11
      · refine v_iconst hC (v := 1) rfl dX5_isOrIsUnder_22 (q := 23) rfl ?_
        refine hR _ _ _ _ ?_ (by first | rfl | decide | assumption) dX5_isOrIsUnder_23
        refine ⟨Or.inl ⟨?_, rfl⟩, rfl⟩
        first | exact Or.inr (Or.inl h19.symm) | exact Or.inl h19.symm | exact Or.inr (Or.inr (Or.inl ⟨h19.symm, rfl⟩)) | exact Or.inr (Or.inr (Or.inr ⟨h19.symm, rfl⟩))
    · exact absurd (by decide) hc11
