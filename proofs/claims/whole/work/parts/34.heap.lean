def mixN {α : Type} (n : Nat) (a b : Nat → α) : Nat → α := fun k => if k < n then a k else b k
theorem mix_s {α : Type} {n : Nat} {a b : Nat → α} : va_up (mixN n a b) n (a n) = mixN (n + 1) a b := by
  funext k
  simp only [va_up, mixN]
  by_cases h : k = n
  · subst h; simp
  · rw [if_neg h]
    by_cases h2 : k < n
    · rw [if_pos h2, if_pos (by omega)]
    · rw [if_neg h2, if_neg (by omega)]
theorem mix_u {n : Nat} {a b : Nat → Int32} : upd (mixN n a b) n (a n) = mixN (n + 1) a b := mix_s
theorem mix_0 {α : Type} {a b : Nat → α} : mixN 0 a b = b := by funext k; simp [mixN]
set_option maxHeartbeats 4000000 in
set_option maxRecDepth 100000 in
theorem c_X1_become {l : Launch} {X : Gx} {f : Hp} {b : Nat} (hb : b < 3) {d cc_ : Int32} {s nu : Nat → Int32} {vv : Nat → Nat → Int32} {b2 : Nat} (hb2 : b2 < 3) (hne : b2 ≠ b) {d2 c2 : Int32} {nu2 : Nat → Int32} {vv2 : Nat → Nat → Int32} {n : Nat} (hN : c2 = nI n) (h8 : n ≤ 8) (g1 : f (1 + 11 * b2) = quaV X b2 d2 c2) (g2 : f (2 + 11 * b2) = pplC X b2) (g3 : ∀ k, k < 8 → f (4 + 11 * b2 + k) = oneV (nu2 k) (vv2 k)) : Cv l X yX1_become cX1_become 3 (none) (rmk 2 42) [.ref (ga X (1 + 11 * b)), .ref (ga X (1 + 11 * b2))] (qH X f b d cc_ s nu vv) (fun g => g = qH X f b d2 c2 s (mixN n nu2 nu) (mixN n vv2 vv)) := by
  refine ct_v (own := RX1) (lv := [some (.ref (ga X (1 + 11 * b))), some (.ref (ga X (1 + 11 * b2))), none]) (by decide) rfl (Nat.le_of_ble_eq_true rfl) (Nat.le_of_ble_eq_true rfl) rfl (fun C hC hR => ?_)
  have loop : ∀ j, j ≤ n → V l X (rmk 2 42) C (qH X f b d2 c2 s (mixN j nu2 nu) (mixN j vv2 vv)) 18 [some (.ref (ga X (1 + 11 * b))), some (.ref (ga X (1 + 11 * b2))), some (.int (nI j))] [] := by
    refine v_up n ?_ ?_
    · refine v_iload_n hC rfl dX1_become_18 (q := 19) rfl ?_
      refine v_aload_n hC rfl dX1_become_19 (q := 20) rfl ?_
      refine v_get hC fl_X1_15 (k := 1 + 11 * b) (by omega) qH_q rfl dX1_become_20 (q := 23) rfl ?_
      refine v_icmp_ge hC dX1_become_23 (t := 47) rfl (q := 26) rfl (fun _ => ?_) (fun h => absurd (by rw [hN]; exact Int32.le_refl _) h)
      refine hR _ _ _ ?_ dX1_become_47
      rfl
    · intro j hj ih
      refine v_iload_n hC rfl dX1_become_18 (q := 19) rfl ?_
      refine v_aload_n hC rfl dX1_become_19 (q := 20) rfl ?_
      refine v_get hC fl_X1_15 (k := 1 + 11 * b) (by omega) qH_q rfl dX1_become_20 (q := 23) rfl ?_
      refine v_icmp_ge hC dX1_become_23 (t := 47) rfl (q := 26) rfl (fun h => absurd h (by rw [hN]; exact nI_ge hj (by omega))) (fun _ => ?_)
      refine v_aload_n hC rfl dX1_become_26 (q := 27) rfl ?_
      refine v_get hC fl_X1_20 (k := 1 + 11 * b) (by omega) qH_q rfl dX1_become_27 (q := 30) rfl ?_
      refine v_iload_n hC rfl dX1_become_30 (q := 31) rfl ?_
      refine v_aald hC 2 (k := 2 + 11 * b) (by omega) qH_p rfl (ix8' (by omega)) (j := j) (nI_clamp (by omega)) rfl dX1_become_31 (q := 32) rfl ?_
      refine v_aload_n hC rfl dX1_become_32 (q := 33) rfl ?_
      refine v_get hC fl_X1_20 (k := 1 + 11 * b2) (by omega) ((qH_out (by rcases Nat.lt_or_ge b2 b with z | z <;> omega)).trans g1) rfl dX1_become_33 (q := 36) rfl ?_
      refine v_iload_n hC rfl dX1_become_36 (q := 37) rfl ?_
      refine v_aald hC 2 (k := 2 + 11 * b2) (by omega) ((qH_out (by rcases Nat.lt_or_ge b2 b with z | z <;> omega)).trans g2) rfl (ix8' (by omega)) (j := j) (nI_clamp (by omega)) rfl dX1_become_37 (q := 38) rfl ?_
      refine v_Vv hC lkV_X1_29 (c_X0_become_F (q := 4 + 11 * b + j) (by omega) (qH_o (by omega)) (q2 := 4 + 11 * b2 + j) (by omega) (by rcases Nat.lt_or_ge b2 b with z | z <;> omega) ((qH_out (by rcases Nat.lt_or_ge b2 b with z | z <;> omega)).trans (g3 j (by omega)))) rfl (by decide) (k := 4 + 11 * b + j) (by omega) (qH_oo (by omega)) rfl rfl (Nat.le_of_ble_eq_true rfl) dX1_become_38 (q := 41) rfl ?_
      rintro _ rfl
      rw [qH_set (by omega), mix_u, mix_s]
      refine v_iinc_2 hC (v := _ + 1) rfl rfl dX1_become_41 (q := 44) rfl ?_
      refine v_goto hC dX1_become_44 (t := 18) rfl ?_
      refine v_same rfl ?_ rfl ih
      simp [nI_1]
  refine v_aload_n hC rfl dX1_become_0 (q := 1) rfl ?_
  refine v_aload_n hC rfl dX1_become_1 (q := 2) rfl ?_
  refine v_get hC fl_X1_9 (k := 1 + 11 * b2) (by omega) ((qH_out (by rcases Nat.lt_or_ge b2 b with z | z <;> omega)).trans g1) rfl dX1_become_2 (q := 5) rfl ?_
  refine v_put hC fl_X1_9 pt_1_0 (k := 1 + 11 * b) (by omega) qH_q (Nat.le_of_ble_eq_true rfl) rfl rfl (qH_day _) dX1_become_5 (q := 8) rfl ?_
  refine v_aload_n hC rfl dX1_become_8 (q := 9) rfl ?_
  refine v_aload_n hC rfl dX1_become_9 (q := 10) rfl ?_
  refine v_get hC fl_X1_15 (k := 1 + 11 * b2) (by omega) ((qH_out (by rcases Nat.lt_or_ge b2 b with z | z <;> omega)).trans g1) rfl dX1_become_10 (q := 13) rfl ?_
  refine v_put hC fl_X1_15 pt_1_1 (k := 1 + 11 * b) (by omega) qH_q (Nat.le_of_ble_eq_true rfl) rfl rfl (qH_cnt _) dX1_become_13 (q := 16) rfl ?_
  refine v_iconst hC (v := 0) rfl dX1_become_16 (q := 17) rfl ?_
  refine v_istore_2 hC rfl dX1_become_17 (q := 18) rfl ?_
  refine v_same ?_ rfl rfl (loop 0 (Nat.zero_le _))
  rw [mix_0, mix_0]

/-! ===== the class's heap: q b 0 day, q b 1 count; nu b k number, vc b k vector (vc 2 8: trialOne) ===== -/
abbrev CT : Type := (Nat → Nat → Int32) × (Nat → Nat → Int32) × (Nat → Nat → Nat → Int32) × (Nat → Nat → Int32) × (Nat → Int32) × (Nat → Int32) × (Nat → Nat → Int32) × (Nat → Nat → Int64) × (Nat → Int32) × Int32
def cs (q nu : Nat → Nat → Int32) (vc : Nat → Nat → Nat → Int32) (sb : Nat → Nat → Int32) (tp by_ : Nat → Int32) (sh : Nat → Nat → Int32) (nn : Nat → Nat → Int64) (fo : Nat → Int32) (kp : Int32) : CS := (q, fun b k j => if j = 0 then nu b k else vc b k (j - 1), sb, tp, by_, sh, nn, fo, kp)
def ch (X : Gx) (M : MS) (q nu : Nat → Nat → Int32) (vc : Nat → Nat → Nat → Int32) (sb : Nat → Nat → Int32) (tp by_ : Nat → Int32) (sh : Nat → Nat → Int32) (nn : Nat → Nat → Int64) (fo : Nat → Int32) (kp : Int32) : Hp := hp X (cs q nu vc sb tp by_ sh nn fo kp) M
section CH
variable {X : Gx} {M : MS} {q nu : Nat → Nat → Int32} {vc : Nat → Nat → Nat → Int32} {sb : Nat → Nat → Int32} {tp by_ : Nat → Int32} {sh : Nat → Nat → Int32} {nn : Nat → Nat → Int64} {fo : Nat → Int32} {kp : Int32}
theorem ch_0 : ch X M q nu vc sb tp by_ sh nn fo kp 0 = .inr (4, [.ref (ga X 1), .ref (ga X 12), .ref (ga X 23), .ref (ga X 34), .ref (ga X 35), .ref (ga X 37), .ref (ga X 46), .int kp]) := rfl
theorem ch_35 : ch X M q nu vc sb tp by_ sh nn fo kp 35 = .inr (3, [.ref (ga X 36), .int (tp 0), .int (tp 1), .int (tp 2), .int (tp 3)]) := rfl
theorem ch_36 : ch X M q nu vc sb tp by_ sh nn fo kp 36 = .inl (gc X 0, 120, .inl by_) := rfl
theorem ch_37 : ch X M q nu vc sb tp by_ sh nn fo kp 37 = .inl (gc X 3, 4, .inr (.inr (.inr (.inr (fun j => some (ga X (38 + 2 * j))))))) := rfl
theorem ch_46 : ch X M q nu vc sb tp by_ sh nn fo kp 46 = .inl (gc X 0, 7, .inl fo) := rfl
theorem ch_sh {s : Nat} (hs : s < 4) : ch X M q nu vc sb tp by_ sh nn fo kp (38 + 2 * s) = .inr (2, [.int (sh s 0), .int (sh s 1), .ref (ga X (39 + 2 * s))]) := by
  rcases (show s = 0 ∨ s = 1 ∨ s = 2 ∨ s = 3 by omega) with rfl | rfl | rfl | rfl <;> rfl
theorem ch_nn {s : Nat} (hs : s < 4) : ch X M q nu vc sb tp by_ sh nn fo kp (39 + 2 * s) = .inl (gc X 1, 40, .inr (.inl (nn s))) := by
  rcases (show s = 0 ∨ s = 1 ∨ s = 2 ∨ s = 3 by omega) with rfl | rfl | rfl | rfl <;> rfl
theorem ch_q {b : Nat} (hb : b < 3) : ch X M q nu vc sb tp by_ sh nn fo kp (1 + 11 * b) = .inr (1, [.int (q b 0), .int (q b 1), .ref (ga X (2 + 11 * b)), .ref (ga X (3 + 11 * b))]) := by
  rcases (show b = 0 ∨ b = 1 ∨ b = 2 by omega) with rfl | rfl | rfl <;> rfl
theorem ch_p {b : Nat} (hb : b < 3) : ch X M q nu vc sb tp by_ sh nn fo kp (2 + 11 * b) = pplC X b := by
  rcases (show b = 0 ∨ b = 1 ∨ b = 2 by omega) with rfl | rfl | rfl <;> rfl
theorem ch_s {b : Nat} (hb : b < 3) : ch X M q nu vc sb tp by_ sh nn fo kp (3 + 11 * b) = mrow X 8 (sb b) := by
  rcases (show b = 0 ∨ b = 1 ∨ b = 2 by omega) with rfl | rfl | rfl <;> rfl
theorem ch_o {b k : Nat} (hb : b < 3) (hk : k < 8 ∨ (b = 2 ∧ k = 8)) : ch X M q nu vc sb tp by_ sh nn fo kp (4 + 11 * b + k) = oneV (nu b k) (vc b k) := by
  rcases (show b = 0 ∨ b = 1 ∨ b = 2 by omega) with rfl | rfl | rfl <;> rcases (show k = 0 ∨ k = 1 ∨ k = 2 ∨ k = 3 ∨ k = 4 ∨ k = 5 ∨ k = 6 ∨ k = 7 ∨ k = 8 by omega) with rfl | rfl | rfl | rfl | rfl | rfl | rfl | rfl | rfl <;> first | rfl | omega
/-- a quay of the class, seen as a Quay's own heap; and back -/
theorem ch_qH {b : Nat} (hb : b < 3) : ch X M q nu vc sb tp by_ sh nn fo kp = qH X (ch X M q nu vc sb tp by_ sh nn fo kp) b (q b 0) (q b 1) (sb b) (nu b) (vc b) := by
  funext y
  unfold qH
  by_cases h1 : y = 1 + 11 * b
  · rw [if_pos h1, h1, ch_q hb]; rfl
  · rw [if_neg h1]
    by_cases h2 : y = 2 + 11 * b
    · rw [if_pos h2, h2, ch_p hb]
    · rw [if_neg h2]
      by_cases h3 : y = 3 + 11 * b
      · rw [if_pos h3, h3, ch_s hb]
      · rw [if_neg h3]
        by_cases h4 : 4 + 11 * b ≤ y ∧ y < 12 + 11 * b
        · rw [if_pos h4]
          have e : y = 4 + 11 * b + (y - (4 + 11 * b)) := by omega
          rw [e, ch_o hb (Or.inl (by omega)), ← e]
        · rw [if_neg h4]
theorem qH_ch {b : Nat} (hb : b < 3) {d c : Int32} {s nu' : Nat → Int32} {vv : Nat → Nat → Int32} : qH X (ch X M q nu vc sb tp by_ sh nn fo kp) b d c s nu' vv = ch X M (va_up q b (upd (upd (q b) 0 d) 1 c)) (va_up nu b (mixN 8 nu' (nu b))) (va_up vc b (mixN 8 vv (vc b))) (va_up sb b s) tp by_ sh nn fo kp := by
  funext y
  by_cases hr : 1 + 11 * b ≤ y ∧ y < 12 + 11 * b
  · rcases (show y = 1 + 11 * b ∨ y = 2 + 11 * b ∨ y = 3 + 11 * b ∨ ∃ k, k < 8 ∧ y = 4 + 11 * b + k by
      by_cases h : 4 + 11 * b ≤ y
      · exact Or.inr (Or.inr (Or.inr ⟨y - (4 + 11 * b), by omega, by omega⟩))
      · omega) with rfl | rfl | rfl | ⟨k, hk, rfl⟩
    · rw [qH_q, ch_q hb, va_up_self]; simp [upd]
    · rw [qH_p, ch_p hb]; rfl
    · rw [qH_s, ch_s hb, va_up_self]; rfl
    · rw [qH_o hk, ch_o hb (Or.inl hk), va_up_self, va_up_self]
      simp [mixN, hk]
  · rw [qH_out (by omega)]
    by_cases hy : 0 < y ∧ y < 34
    · obtain ⟨b', r, hb', hr', rfl⟩ : ∃ b' r, b' < 3 ∧ r < 11 ∧ y = 1 + 11 * b' + r := ⟨(y - 1) / 11, (y - 1) % 11, by omega, by omega, by omega⟩
      have hne : b' ≠ b := by intro e; subst e; omega
      rcases (show r = 0 ∨ r = 1 ∨ r = 2 ∨ ∃ k, k < 8 ∧ r = 3 + k by
        by_cases h : 3 ≤ r
        · exact Or.inr (Or.inr (Or.inr ⟨r - 3, by omega, by omega⟩))
        · omega) with rfl | rfl | rfl | ⟨k, hk, rfl⟩
      · rw [Nat.add_zero, ch_q hb', ch_q hb', va_up_ne _ _ hne]
      · rw [show 1 + 11 * b' + 1 = 2 + 11 * b' by omega, ch_p hb', ch_p hb']
      · rw [show 1 + 11 * b' + 2 = 3 + 11 * b' by omega, ch_s hb', ch_s hb', va_up_ne _ _ hne]
      · rw [show 1 + 11 * b' + (3 + k) = 4 + 11 * b' + k by omega, ch_o hb' (Or.inl hk), ch_o hb' (Or.inl hk), va_up_ne _ _ hne, va_up_ne _ _ hne]
    · by_cases h0 : y = 0
      · subst h0; rfl
      · by_cases h34 : y = 34
        · subst h34
          rw [show 34 = 4 + 11 * 2 + 8 from rfl, ch_o (by decide) (Or.inr ⟨rfl, rfl⟩), ch_o (by decide) (Or.inr ⟨rfl, rfl⟩)]
          by_cases e : b = 2
          · subst e; rw [va_up_self, va_up_self]; simp [mixN]
          · rw [va_up_ne _ _ (Ne.symm e), va_up_ne _ _ (Ne.symm e)]
        · have h1 : ¬ y < 34 := by omega
          simp only [ch, hp, cs, ccell, if_neg h0, if_neg h1, if_neg h34]
/-- one person of the class changes -/
theorem ch_set {b k : Nat} (hb : b < 3) (hk : k < 8 ∨ (b = 2 ∧ k = 8)) {x : Int32} {w : Nat → Int32} : va_up (ch X M q nu vc sb tp by_ sh nn fo kp) (4 + 11 * b + k) (oneV x w) = ch X M q (va_up nu b (upd (nu b) k x)) (va_up vc b (va_up (vc b) k w)) sb tp by_ sh nn fo kp := by
  funext y
  by_cases h : y = 4 + 11 * b + k
  · subst h
    rw [va_up_self, ch_o hb hk, va_up_self, va_up_self, va_up_self]
    simp [upd]
  · rw [va_up_ne _ _ h]
    by_cases hy : 0 < y ∧ y < 34
    · obtain ⟨b', r, hb', hr', rfl⟩ : ∃ b' r, b' < 3 ∧ r < 11 ∧ y = 1 + 11 * b' + r := ⟨(y - 1) / 11, (y - 1) % 11, by omega, by omega, by omega⟩
      rcases (show r = 0 ∨ r = 1 ∨ r = 2 ∨ ∃ k, k < 8 ∧ r = 3 + k by
        by_cases h : 3 ≤ r
        · exact Or.inr (Or.inr (Or.inr ⟨r - 3, by omega, by omega⟩))
        · omega) with rfl | rfl | rfl | ⟨k', hk', rfl⟩
      · rw [Nat.add_zero, ch_q hb', ch_q hb']
      · rw [show 1 + 11 * b' + 1 = 2 + 11 * b' by omega, ch_p hb', ch_p hb']
      · rw [show 1 + 11 * b' + 2 = 3 + 11 * b' by omega, ch_s hb', ch_s hb']
      · rw [show 1 + 11 * b' + (3 + k') = 4 + 11 * b' + k' by omega, ch_o hb' (Or.inl hk'), ch_o hb' (Or.inl hk')]
        by_cases e : b' = b
        · subst e
          rw [va_up_self, va_up_self]
          have hne : k' ≠ k := by intro z; subst z; omega
          rw [va_up_ne _ _ hne]
          simp [upd, hne]
        · rw [va_up_ne _ _ e, va_up_ne _ _ e]
    · by_cases h0 : y = 0
      · subst h0; rfl
      · by_cases h34 : y = 34
        · subst h34
          rw [show 34 = 4 + 11 * 2 + 8 from rfl, ch_o (by decide) (Or.inr ⟨rfl, rfl⟩), ch_o (by decide) (Or.inr ⟨rfl, rfl⟩)]
          by_cases e : b = 2
          · subst e
            have hne : 8 ≠ k := by intro z; subst z; omega
            rw [va_up_self, va_up_self, va_up_ne _ _ hne]
            simp [upd, hne]
          · rw [va_up_ne _ _ (Ne.symm e), va_up_ne _ _ (Ne.symm e)]
        · have h1 : ¬ y < 34 := by omega
          simp only [ch, hp, cs, ccell, if_neg h0, if_neg h1, if_neg h34]
end CH