def othF (k : Nat) : Nat → Int32
  | 0 => 0
  | o + 1 => othF k o ||| (if ¬ o = k then bitI o else 0)
theorem oth_eq : ∀ n : Fin 9, ∀ k : Fin 8, othF k.val n.val = allI n.val &&& (bitI k.val ^^^ -1) := by decide +kernel
theorem look50 {k : Int32} {v : Nat → Int32} {o : Int32} (h : v 3 = 1) : lookF k v o = 50 := by rw [lookF, if_pos h]
theorem sees_oth {k : Nat} {v : Nat → Int32} (h : v 3 = 1) (hk : k < 8) : ∀ n, n ≤ 8 → seesF (nI k) v 30 n = othF k n
  | 0, _ => rfl
  | o + 1, ho => by
    rw [seesF, othF, sees_oth h hk o (by omega), look50 h]
    congr 1
    by_cases e : o = k
    · subst e; rw [if_neg (by simp), if_neg (by simp)]
    · rw [if_pos ⟨fun z => e ((nI_eq (by omega) (by omega)).mp z), by decide⟩, if_pos e]
theorem upG_0 {g : Nat → Nat → Int32} {st : Int32} {p : Nat} (h : bitU st p = false) : upG g st p = g p := by
  rw [upG, h]
  exact upd_id rfl
theorem upG_1 {g : Nat → Nat → Int32} {st : Int32} {p : Nat} (h : bitU st p = true) : upG g st p 3 = 1 := by
  rw [upG, h]; rfl
theorem bitU_iff {st : Int32} {p : Nat} (hp : p < 8) : st &&& bitI p = 0 ↔ bitU st p = false := by
  rw [bit_iff st hp, bitU]; simp
theorem sw_seen {g : Nat → Nat → Int32} {n : Nat} (h8 : n ≤ 8) {s : Nat → Int32} {st : Int32} : ∀ k, k ≤ n → swF (ntR g n s n) n st k = seenF (upG g st) n k
  | 0, _ => rfl
  | k + 1, hk => by
    rw [swF, seenF, sw_seen h8 k (by omega)]
    congr 1
    cases e : bitU st k with
    | false => rw [if_pos ((bitU_iff (by omega)).mpr e), upG_0 e, ntR, if_pos (by omega)]
    | true => rw [if_neg (fun z => by rw [(bitU_iff (by omega)).mp z] at e; cases e), sees_oth (upG_1 e) (by omega) n h8, oth_eq ⟨n, by omega⟩ ⟨k, by omega⟩]
def orA (n : Nat) : Nat → Int32
  | 0 => 0
  | p + 1 => orA n p ||| othF p n
theorem orA_eq : ∀ n : Fin 9, 2 ≤ n.val → orA n.val n.val = allI n.val := by decide +kernel
theorem bitU_all : ∀ n : Fin 9, ∀ p : Fin 8, p.val < n.val → bitU (nI (2 ^ n.val - 1)) p.val = true := by decide +kernel
theorem seen_all {g : Nat → Nat → Int32} {n : Nat} (h8 : n ≤ 8) : ∀ k, k ≤ n → seenF (upG g (nI (2 ^ n - 1))) n k = orA n k
  | 0, _ => rfl
  | k + 1, hk => by
    rw [seenF, orA, seen_all h8 k (by omega), sees_oth (upG_1 (bitU_all ⟨n, by omega⟩ ⟨k, by omega⟩ (by exact hk))) (by omega) n h8]
theorem ok_all {g : Nat → Nat → Int32} {n : Nat} (h8 : n ≤ 8) (h2 : 2 ≤ n) : okP n g (2 ^ n - 1) = true := by
  rw [okP, seen_all h8 n (Nat.le_refl _), orA_eq ⟨n, by omega⟩ h2]
  simp
theorem pc_all : ∀ n : Fin 9, ∀ j : Fin 256, j.val < 2 ^ n.val - 1 → pcN j.val < pcN (2 ^ n.val - 1) := by decide +kernel
theorem all_nI : ∀ n : Fin 9, allI n.val = nI (2 ^ n.val - 1) := by decide +kernel
theorem psh_step {ok : Nat → Bool} {A j : Nat} (hA : pcN j < pcN A) : (pshF ok (j + 1)).getD A = if pcN j < pcN ((pshF ok j).getD A) ∧ ok j = true then j else (pshF ok j).getD A := by
  rw [pshF]
  cases e : pshF ok j with
  | none =>
    simp only [Option.getD_none]
    by_cases h : ok j = true
    · rw [if_pos h, if_pos ⟨hA, h⟩]; rfl
    · rw [if_neg h, if_neg (fun z => h z.2)]; rfl
  | some b =>
    simp only [Option.getD_some, Bool.and_eq_true, decide_eq_true_eq]
    split <;> rfl
theorem psh_last {ok : Nat → Bool} {A : Nat} (hA : ok A = true) (hb : ∀ b, pshF ok A = some b → pcN b < pcN A) : pshF ok (A + 1) = some ((pshF ok A).getD A) := by
  rw [pshF]
  cases e : pshF ok A with
  | none => simp only [if_pos hA, Option.getD_none]
  | some b =>
    have := hb b e
    simp only [Option.getD_some, Bool.and_eq_true, decide_eq_true_eq]
    rw [if_neg (fun z => by omega)]
def bcI (x : Int32) : Int32 := x
theorem psh_ge {n j : Nat} (h8 : n ≤ 8) (h : j < 2 ^ n - 1) : j < 256 := by have := pw8 h8; omega
def b1 (x : Int32) : Int32 := x - (((x).toUInt32 >>> ((1 : Int32).toUInt32 &&& Int32.toUInt32 31)).toInt32 &&& 1431655765)
def b2 (x : Int32) : Int32 := (x &&& 858993459) + (((x).toUInt32 >>> ((2 : Int32).toUInt32 &&& Int32.toUInt32 31)).toInt32 &&& 858993459)
def b3 (x : Int32) : Int32 := (x + ((x).toUInt32 >>> ((4 : Int32).toUInt32 &&& Int32.toUInt32 31)).toInt32) &&& 252645135
def b4 (x : Int32) : Int32 := x + ((x).toUInt32 >>> ((8 : Int32).toUInt32 &&& Int32.toUInt32 31)).toInt32
def b5 (x : Int32) : Int32 := x + ((x).toUInt32 >>> ((16 : Int32).toUInt32 &&& Int32.toUInt32 31)).toInt32
theorem bc_eq : ∀ s : Fin 256, b5 (b4 (b3 (b2 (b1 (nI s.val))))) &&& 63 = nI (pcN s.val) := by decide +kernel
set_option maxHeartbeats 4000000 in
set_option maxRecDepth 100000 in
theorem c_J6_bitCount_0f7a4 {l : Launch} {X : Gx} {f : Hp} {s : Nat} (hs : s < 256) : Ci l X yJ6_bitCount_0f7a4 cJ6_bitCount_0f7a4 1 (some .int) (rmk 0 0) [.int (nI s)] (f) (fun z g => z = nI (pcN s) ∧ g = f) := by
  refine ct_i (own := RJ6) (lv := [some (.int (nI s))]) (by decide) rfl (Nat.le_of_ble_eq_true rfl) (Nat.le_of_ble_eq_true rfl) rfl (fun C hC hR => ?_)
  refine v_iload_n hC rfl dJ6_bitCount_0f7a4_0 (q := 1) rfl ?_
  refine v_iload_n hC rfl dJ6_bitCount_0f7a4_1 (q := 2) rfl ?_
  refine v_iconst hC (v := 1) rfl dJ6_bitCount_0f7a4_2 (q := 3) rfl ?_
  refine v_iushr hC dJ6_bitCount_0f7a4_3 (q := 4) rfl ?_
  refine v_ldcw hC wk_J6_265 dJ6_bitCount_0f7a4_4 (q := 7) rfl ?_
  refine v_iand hC dJ6_bitCount_0f7a4_7 (q := 8) rfl ?_
  refine v_isub hC dJ6_bitCount_0f7a4_8 (q := 9) rfl ?_
  refine v_istore_0 hC dJ6_bitCount_0f7a4_9 (q := 10) rfl ?_
  refine v_same (lv := [some (.int (b1 (nI s)))]) rfl rfl rfl ?_
  refine v_iload_n hC rfl dJ6_bitCount_0f7a4_10 (q := 11) rfl ?_
  refine v_ldcw hC wk_J6_266 dJ6_bitCount_0f7a4_11 (q := 14) rfl ?_
  refine v_iand hC dJ6_bitCount_0f7a4_14 (q := 15) rfl ?_
  refine v_iload_n hC rfl dJ6_bitCount_0f7a4_15 (q := 16) rfl ?_
  refine v_iconst hC (v := 2) rfl dJ6_bitCount_0f7a4_16 (q := 17) rfl ?_
  refine v_iushr hC dJ6_bitCount_0f7a4_17 (q := 18) rfl ?_
  refine v_ldcw hC wk_J6_266 dJ6_bitCount_0f7a4_18 (q := 21) rfl ?_
  refine v_iand hC dJ6_bitCount_0f7a4_21 (q := 22) rfl ?_
  refine v_iadd hC dJ6_bitCount_0f7a4_22 (q := 23) rfl ?_
  refine v_istore_0 hC dJ6_bitCount_0f7a4_23 (q := 24) rfl ?_
  refine v_same (lv := [some (.int (b2 (b1 (nI s))))]) rfl rfl rfl ?_
  refine v_iload_n hC rfl dJ6_bitCount_0f7a4_24 (q := 25) rfl ?_
  refine v_iload_n hC rfl dJ6_bitCount_0f7a4_25 (q := 26) rfl ?_
  refine v_iconst hC (v := 4) rfl dJ6_bitCount_0f7a4_26 (q := 27) rfl ?_
  refine v_iushr hC dJ6_bitCount_0f7a4_27 (q := 28) rfl ?_
  refine v_iadd hC dJ6_bitCount_0f7a4_28 (q := 29) rfl ?_
  refine v_ldcw hC wk_J6_267 dJ6_bitCount_0f7a4_29 (q := 32) rfl ?_
  refine v_iand hC dJ6_bitCount_0f7a4_32 (q := 33) rfl ?_
  refine v_istore_0 hC dJ6_bitCount_0f7a4_33 (q := 34) rfl ?_
  refine v_same (lv := [some (.int (b3 (b2 (b1 (nI s)))))]) rfl rfl rfl ?_
  refine v_iload_n hC rfl dJ6_bitCount_0f7a4_34 (q := 35) rfl ?_
  refine v_iload_n hC rfl dJ6_bitCount_0f7a4_35 (q := 36) rfl ?_
  refine v_bipush hC (v := 8) rfl dJ6_bitCount_0f7a4_36 (q := 38) rfl ?_
  refine v_iushr hC dJ6_bitCount_0f7a4_38 (q := 39) rfl ?_
  refine v_iadd hC dJ6_bitCount_0f7a4_39 (q := 40) rfl ?_
  refine v_istore_0 hC dJ6_bitCount_0f7a4_40 (q := 41) rfl ?_
  refine v_same (lv := [some (.int (b4 (b3 (b2 (b1 (nI s))))))]) rfl rfl rfl ?_
  refine v_iload_n hC rfl dJ6_bitCount_0f7a4_41 (q := 42) rfl ?_
  refine v_iload_n hC rfl dJ6_bitCount_0f7a4_42 (q := 43) rfl ?_
  refine v_bipush hC (v := 16) rfl dJ6_bitCount_0f7a4_43 (q := 45) rfl ?_
  refine v_iushr hC dJ6_bitCount_0f7a4_45 (q := 46) rfl ?_
  refine v_iadd hC dJ6_bitCount_0f7a4_46 (q := 47) rfl ?_
  refine v_istore_0 hC dJ6_bitCount_0f7a4_47 (q := 48) rfl ?_
  refine v_same (lv := [some (.int (b5 (b4 (b3 (b2 (b1 (nI s)))))))]) rfl rfl rfl ?_
  refine v_iload_n hC rfl dJ6_bitCount_0f7a4_48 (q := 49) rfl ?_
  refine v_bipush hC (v := 63) rfl dJ6_bitCount_0f7a4_49 (q := 51) rfl ?_
  refine v_iand hC dJ6_bitCount_0f7a4_51 (q := 52) rfl ?_
  refine hR _ _ _ _ ?_ dJ6_bitCount_0f7a4_52
  exact ⟨bc_eq ⟨s, hs⟩, rfl⟩

set_option maxHeartbeats 4000000 in
set_option maxRecDepth 100000 in
theorem c_X5_push {l : Launch} {X : Gx} {M : MS} {q nu : Nat → Nat → Int32} {vc : Nat → Nat → Nat → Int32} {sb : Nat → Nat → Int32} {tp by_ : Nat → Int32} {sh : Nat → Nat → Int32} {nn : Nat → Nat → Int64} {fo : Nat → Int32} {kp : Int32} {n : Nat} (hN : q 0 1 = nI n) (h8 : n ≤ 8) (hnu : ∀ p, p < n → nu 0 p = nI p) (hok : ∀ p, p < n → okV (vc 0 p))  : Ci l X yX5_push cX5_push 4 (some .int) (rmk 4 90) [.ref (ga X 0)] (ch X M q nu vc sb tp by_ sh nn fo kp) (fun z g => z = ansI (S_push n (vc 0)) ∧ ∃ q2 n2 v2 sb2, g = ch X M (va_up q 2 q2) (va_up nu 2 n2) (va_up vc 2 v2) sb2 tp by_ sh nn (fnF fo (S_push n (vc 0))) kp) := by
  refine ct_i (own := RX5) (lv := [some (.ref (ga X 0)), none, none, none]) (by decide) rfl (Nat.le_of_ble_eq_true rfl) (Nat.le_of_ble_eq_true rfl) rfl (fun C hC hR => ?_)
  have main : 2 ≤ n → V l X (rmk 4 90) C (ch X M q nu vc (va_up sb 0 (ntR (vc 0) n (sb 0) n)) tp by_ sh nn fo kp) 35 [some (.ref (ga X 0)), some (.int (nI ((pshF (okP n (vc 0)) 0).getD (2 ^ n - 1)))), some (.int (nI 0)), none] [] := by
    intro h2
    have hA := all_nI ⟨n, by omega⟩
    dsimp only at hA
    have hpw := pw8 h8
    have hpp := Nat.two_pow_pos n
    have hbA : ∀ j, j ≤ 2 ^ n - 1 → (pshF (okP n (vc 0)) j).getD (2 ^ n - 1) < 256 := by
      intro j hj
      cases e : pshF (okP n (vc 0)) j with
      | none => simp only [Option.getD_none]; omega
      | some b => simp only [Option.getD_some]; have := pshF_lt _ _ e; omega
    have loop : ∀ j, j ≤ (2 ^ n - 1) → V l X (rmk 4 90) C (ch X M q nu vc (va_up sb 0 (ntR (vc 0) n (sb 0) n)) tp by_ sh nn fo kp) 35 [some (.ref (ga X 0)), some (.int (nI ((pshF (okP n (vc 0)) j).getD (2 ^ n - 1)))), some (.int (nI j)), none] [] := by
      refine v_up (2 ^ n - 1) ?_ ?_
      · refine v_iload_n hC rfl dX5_push_35 (q := 36) rfl ?_
        refine v_aload_n hC rfl dX5_push_36 (q := 37) rfl ?_
        refine v_get hC fl_X5_12 (k := 0) (by decide) ch_0 rfl dX5_push_37 (q := 40) rfl ?_
        refine v_Vi hC lkV_X5_183 (c_X1_all_C (b := 0) (by decide) hN h8) rfl (by decide) (k := 1 + 11 * 0) (by decide) (ch_q (b := 0) (by decide)) rfl rfl (Nat.le_of_ble_eq_true rfl) dX5_push_40 (q := 43) rfl ?_
        rintro _ _ ⟨rfl, rfl⟩
        refine v_icmp_ge hC dX5_push_43 (t := 93) rfl (q := 46) rfl (fun _ => ?_) (fun h => absurd (by rw [hA]; exact Int32.le_refl _) h)
        refine v_iload_n hC rfl dX5_push_93 (q := 94) rfl ?_
        refine hR _ _ _ _ ?_ dX5_push_94
        have hL := psh_last (ok := okP n (vc 0)) (A := 2 ^ n - 1) (ok_all h8 h2) (fun b e => by have := pshF_lt _ _ e; exact pc_all ⟨n, by omega⟩ ⟨b, by omega⟩ this)
        rw [show 2 ^ n - 1 + 1 = 2 ^ n by omega] at hL
        have hS : S_push n (vc 0) = .inr (nI ((pshF (okP n (vc 0)) (2 ^ n - 1)).getD (2 ^ n - 1))) := by rw [S_push, if_pos (by omega), hL]; rfl
        rw [hS]
        exact ⟨rfl, q 2, nu 2, vc 2, _, by rw [up_id, up_id, up_id]; rfl⟩
      · intro j hj ih
        have hj2 : j < 256 := by omega
        have hbj := hbA j (Nat.le_of_lt hj)
        have hpA := pc_all ⟨n, by omega⟩ ⟨j, hj2⟩ hj
        have hq1 : pcN j < 2147483648 := Nat.lt_of_le_of_lt (pcN_le ⟨j, hj2⟩) (by decide)
        have hq2 : pcN ((pshF (okP n (vc 0)) j).getD (2 ^ n - 1)) < 2147483648 := Nat.lt_of_le_of_lt (pcN_le ⟨_, hbj⟩) (by decide)
        refine v_iload_n hC rfl dX5_push_35 (q := 36) rfl ?_
        refine v_aload_n hC rfl dX5_push_36 (q := 37) rfl ?_
        refine v_get hC fl_X5_12 (k := 0) (by decide) ch_0 rfl dX5_push_37 (q := 40) rfl ?_
        refine v_Vi hC lkV_X5_183 (c_X1_all_C (b := 0) (by decide) hN h8) rfl (by decide) (k := 1 + 11 * 0) (by decide) (ch_q (b := 0) (by decide)) rfl rfl (Nat.le_of_ble_eq_true rfl) dX5_push_40 (q := 43) rfl ?_
        rintro _ _ ⟨rfl, rfl⟩
        refine v_icmp_ge hC dX5_push_43 (t := 93) rfl (q := 46) rfl (fun h => absurd h (by rw [hA]; exact nI_ge hj (by omega))) (fun _ => ?_)
        refine v_iload_n hC rfl dX5_push_46 (q := 47) rfl ?_
        refine v_Si hC lkS_X5_186 (c_J6_bitCount_0f7a4 (s := j) hj2) rfl (by decide) rfl (Nat.le_of_ble_eq_true rfl) dX5_push_47 (q := 50) rfl ?_
        rintro _ _ ⟨rfl, rfl⟩
        refine v_iload_n hC rfl dX5_push_50 (q := 51) rfl ?_
        refine v_Si hC lkS_X5_186 (c_J6_bitCount_0f7a4 (s := (pshF (okP n (vc 0)) j).getD (2 ^ n - 1)) hbj) rfl (by decide) rfl (Nat.le_of_ble_eq_true rfl) dX5_push_51 (q := 54) rfl ?_
        rintro _ _ ⟨rfl, rfl⟩
        refine v_icmp_ge hC dX5_push_54 (t := 61) rfl (q := 57) rfl (fun h54 => ?_) (fun h54 => ?_)
        · refine v_iconst hC (v := 0) rfl dX5_push_61 (q := 62) rfl ?_
          refine v_istore_3 hC rfl dX5_push_62 (q := 63) rfl ?_
          refine v_iload_n hC rfl dX5_push_63 (q := 64) rfl ?_
          refine v_if_eq hC dX5_push_64 (t := 87) rfl (q := 67) rfl (fun _ => ?_) (fun h => absurd h (by decide))
          refine v_iinc_2 hC (v := _ + 1) rfl rfl dX5_push_87 (q := 90) rfl ?_
          refine v_goto hC dX5_push_90 (t := 35) rfl ?_
          refine v_weak (lv' := [some (.ref (ga X 0)), some (.int (nI ((pshF (okP n (vc 0)) j).getD (2 ^ n - 1)))), some (.int (nI j + 1)), none]) ⟨rfl, rfl, rfl, trivial⟩ ?_
          refine v_same rfl ?_ rfl ih
          rw [psh_step hpA, if_neg (fun z => Int32.not_lt.mpr h54 ((nI_ltI hq1 hq2).mpr z.1)), nI_1]
        · refine v_iconst hC (v := 1) rfl dX5_push_57 (q := 58) rfl ?_
          refine v_goto hC dX5_push_58 (t := 62) rfl ?_
          refine v_istore_3 hC rfl dX5_push_62 (q := 63) rfl ?_
          refine v_iload_n hC rfl dX5_push_63 (q := 64) rfl ?_
          refine v_if_eq hC dX5_push_64 (t := 87) rfl (q := 67) rfl (fun h => absurd h (by decide)) (fun _ => ?_)
          refine v_aload_n hC rfl dX5_push_67 (q := 68) rfl ?_
          refine v_get hC fl_X5_12 (k := 0) (by decide) ch_0 rfl dX5_push_68 (q := 71) rfl ?_
          refine v_iload_n hC rfl dX5_push_71 (q := 72) rfl ?_
          refine v_Vi hC lkV_X5_191 (c_X1_seenWithUp_C (b := 0) (by decide) hN h8) rfl (by decide) (k := 1 + 11 * 0) (by decide) (ch_q (b := 0) (by decide)) rfl rfl (Nat.le_of_ble_eq_true rfl) dX5_push_72 (q := 75) rfl ?_
          rintro _ _ ⟨rfl, rfl⟩
          refine v_aload_n hC rfl dX5_push_75 (q := 76) rfl ?_
          refine v_get hC fl_X5_12 (k := 0) (by decide) ch_0 rfl dX5_push_76 (q := 79) rfl ?_
          refine v_Vi hC lkV_X5_183 (c_X1_all_C (b := 0) (by decide) hN h8) rfl (by decide) (k := 1 + 11 * 0) (by decide) (ch_q (b := 0) (by decide)) rfl rfl (Nat.le_of_ble_eq_true rfl) dX5_push_79 (q := 82) rfl ?_
          rintro _ _ ⟨rfl, rfl⟩
          refine v_icmp_ne hC dX5_push_82 (t := 87) rfl (q := 85) rfl (fun h82 => ?_) (fun h82 => ?_)
          · refine v_iinc_2 hC (v := _ + 1) rfl rfl dX5_push_87 (q := 90) rfl ?_
            refine v_goto hC dX5_push_90 (t := 35) rfl ?_
            rw [va_up_self, sw_seen h8 n (Nat.le_refl _)] at h82
            refine v_weak (lv' := [some (.ref (ga X 0)), some (.int (nI ((pshF (okP n (vc 0)) j).getD (2 ^ n - 1)))), some (.int (nI j + 1)), none]) ⟨rfl, rfl, rfl, trivial⟩ ?_
            refine v_same rfl ?_ rfl ih
            rw [psh_step hpA, if_neg (fun z => h82 (of_decide_eq_true z.2)), nI_1]
          · refine v_iload_n hC rfl dX5_push_85 (q := 86) rfl ?_
            refine v_istore_1 hC rfl dX5_push_86 (q := 87) rfl ?_
            refine v_iinc_2 hC (v := _ + 1) rfl rfl dX5_push_87 (q := 90) rfl ?_
            refine v_goto hC dX5_push_90 (t := 35) rfl ?_
            rw [va_up_self, sw_seen h8 n (Nat.le_refl _)] at h82
            refine v_weak (lv' := [some (.ref (ga X 0)), some (.int (nI (j))), some (.int (nI j + 1)), none]) ⟨rfl, rfl, rfl, trivial⟩ ?_
            refine v_same rfl ?_ rfl ih
            rw [psh_step hpA, if_pos ⟨(nI_ltI hq1 hq2).mp (Int32.not_le.mp h54), decide_eq_true h82⟩, nI_1]
    exact loop 0 (Nat.zero_le _)
  refine v_aload_n hC rfl dX5_push_0 (q := 1) rfl ?_
  refine v_get hC fl_X5_12 (k := 0) (by decide) ch_0 rfl dX5_push_1 (q := 4) rfl ?_
  refine v_getN hC nl_X5_173 (k := 1 + 11 * 0) (by decide) (ch_q (b := 0) (by decide)) rfl dX5_push_4 (q := 7) rfl ?_
  refine v_iconst hC (v := 2) rfl dX5_push_7 (q := 8) rfl ?_
  refine v_icmp_ge hC dX5_push_8 (t := 18) rfl (q := 11) rfl (fun h8_ => ?_) (fun h8_ => ?_)
  · refine v_aload_n hC rfl dX5_push_18 (q := 19) rfl ?_
    refine v_get hC fl_X5_12 (k := 0) (by decide) ch_0 rfl dX5_push_19 (q := 22) rfl ?_
    refine v_Vv hC lkV_X5_180 (c_X1_noteWhoSeesWhom_C (b := 0) (by decide) hN h8 hnu hok) rfl (by decide) (k := 1 + 11 * 0) (by decide) (ch_q (b := 0) (by decide)) rfl rfl (Nat.le_of_ble_eq_true rfl) dX5_push_22 (q := 25) rfl ?_
    rintro _ rfl
    refine v_aload_n hC rfl dX5_push_25 (q := 26) rfl ?_
    refine v_get hC fl_X5_12 (k := 0) (by decide) ch_0 rfl dX5_push_26 (q := 29) rfl ?_
    refine v_Vi hC lkV_X5_183 (c_X1_all_C (b := 0) (by decide) hN h8) rfl (by decide) (k := 1 + 11 * 0) (by decide) (ch_q (b := 0) (by decide)) rfl rfl (Nat.le_of_ble_eq_true rfl) dX5_push_29 (q := 32) rfl ?_
    rintro _ _ ⟨rfl, rfl⟩
    refine v_istore_1 hC rfl dX5_push_32 (q := 33) rfl ?_
    refine v_iconst hC (v := 0) rfl dX5_push_33 (q := 34) rfl ?_
    refine v_istore_2 hC rfl dX5_push_34 (q := 35) rfl ?_
    have h2 : 2 ≤ n := by
      rw [hN, show (2 : Int32) = nI 2 from rfl] at h8_
      exact Nat.not_lt.mp (fun z => Int32.not_lt.mpr h8_ ((nI_ltI (by omega) (by decide)).mpr z))
    refine v_same rfl ?_ rfl (main h2)
    rw [show allI n = nI (2 ^ n - 1) from all_nI ⟨n, by omega⟩]
    rfl
  · refine v_aload_n hC rfl dX5_push_11 (q := 12) rfl ?_
    refine v_ldc hC wk_X5_176 dX5_push_12 (q := 14) rfl ?_
    refine v_Vi hC lkV_X5_56 (c_X5_finding (n := 3) (by decide)) rfl (by decide) (k := 0) (by decide) ch_0 rfl rfl (Nat.le_of_ble_eq_true rfl) dX5_push_14 (q := 17) rfl ?_
    rintro _ _ ⟨rfl, rfl⟩
    refine hR _ _ _ _ ?_ dX5_push_17
    have hn : ¬ 1 < n := by
      intro z
      apply h8_
      rw [hN, show (2 : Int32) = nI 2 from rfl]
      exact nI_le z (by omega)
    refine ⟨?_, q 2, nu 2, vc 2, sb, ?_⟩
    · simp only [S_push, ansI, fnF, if_neg hn]
    · rw [up_id, up_id, up_id]
      simp only [S_push, ansI, fnF, if_neg hn]
