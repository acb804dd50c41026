section CU
variable {X : Gx} {M : MS} {q nu : Nat → Nat → Int32} {vc : Nat → Nat → Nat → Int32} {sb : Nat → Nat → Int32} {tp by_ : Nat → Int32} {sh : Nat → Nat → Int32} {nn : Nat → Nat → Int64} {fo : Nat → Int32} {kp : Int32}
theorem ch_kp (x : Int32) : va_up (ch X M q nu vc sb tp by_ sh nn fo kp) 0 (.inr (4, ([.ref (ga X 1), .ref (ga X 12), .ref (ga X 23), .ref (ga X 34), .ref (ga X 35), .ref (ga X 37), .ref (ga X 46), .int kp] : List Value).set 7 (.int x))) = ch X M q nu vc sb tp by_ sh nn fo x := by
  funext y
  by_cases h : y = 0
  · subst h; rfl
  · rw [va_up_ne _ _ h]; simp only [ch, hp, cs, ccell, if_neg h]
theorem ch_by (g : Nat → Int32) : va_up (ch X M q nu vc sb tp by_ sh nn fo kp) 36 (.inl (gc X 0, 120, .inl g)) = ch X M q nu vc sb tp g sh nn fo kp := by
  funext y
  by_cases h : y = 36
  · subst h; rfl
  · rw [va_up_ne _ _ h]; simp only [ch, hp, cs, ccell, if_neg h]
theorem ch_fo (g : Nat → Int32) : va_up (ch X M q nu vc sb tp by_ sh nn fo kp) 46 (.inl (gc X 0, 7, .inl g)) = ch X M q nu vc sb tp by_ sh nn g kp := by
  funext y
  by_cases h : y = 46
  · subst h; rfl
  · rw [va_up_ne _ _ h]
    by_cases h2 : y < 47
    · have h3 : y < 46 := by omega
      simp only [ch, hp, cs, ccell, if_pos h2, if_pos h3]
    · simp only [ch, hp, if_neg h2]
theorem ch_sh0 {s : Nat} (hs : s < 4) (x : Int32) : va_up (ch X M q nu vc sb tp by_ sh nn fo kp) (38 + 2 * s) (.inr (2, ([.int (sh s 0), .int (sh s 1), .ref (ga X (39 + 2 * s))] : List Value).set 0 (.int x))) = ch X M q nu vc sb tp by_ (va_up sh s (upd (sh s) 0 x)) nn fo kp := by
  funext y
  by_cases h : y = 38 + 2 * s
  · subst h
    rw [va_up_self, ch_sh hs, va_up_self]
    simp [upd]
  · rw [va_up_ne _ _ h]
    by_cases h2 : 38 ≤ y ∧ y < 46 ∧ y % 2 = 0
    · obtain ⟨s', hs', rfl⟩ : ∃ s', s' < 4 ∧ y = 38 + 2 * s' := ⟨(y - 38) / 2, by omega, by omega⟩
      have hne : s' ≠ s := by intro e; subst e; exact h rfl
      rw [ch_sh hs', ch_sh hs', va_up_ne _ _ hne]
    · by_cases h3 : y < 46
      · by_cases h4 : y % 2 = 0
        · have h5 : y < 38 := by omega
          by_cases h6 : y < 34
          · simp only [ch, hp, cs, ccell, if_pos h6]
          · rcases (show y = 34 ∨ y = 36 by omega) with rfl | rfl <;> rfl
        · simp only [ch, hp, cs, ccell, if_neg h4]
      · simp only [ch, hp, cs, ccell, if_neg h3]
theorem ch_sh1 {s : Nat} (hs : s < 4) (x : Int32) : va_up (ch X M q nu vc sb tp by_ sh nn fo kp) (38 + 2 * s) (.inr (2, ([.int (sh s 0), .int (sh s 1), .ref (ga X (39 + 2 * s))] : List Value).set 1 (.int x))) = ch X M q nu vc sb tp by_ (va_up sh s (upd (sh s) 1 x)) nn fo kp := by
  funext y
  by_cases h : y = 38 + 2 * s
  · subst h
    rw [va_up_self, ch_sh hs, va_up_self]
    simp [upd]
  · rw [va_up_ne _ _ h]
    by_cases h2 : 38 ≤ y ∧ y < 46 ∧ y % 2 = 0
    · obtain ⟨s', hs', rfl⟩ : ∃ s', s' < 4 ∧ y = 38 + 2 * s' := ⟨(y - 38) / 2, by omega, by omega⟩
      have hne : s' ≠ s := by intro e; subst e; exact h rfl
      rw [ch_sh hs', ch_sh hs', va_up_ne _ _ hne]
    · by_cases h3 : y < 46
      · by_cases h4 : y % 2 = 0
        · have h5 : y < 38 := by omega
          by_cases h6 : y < 34
          · simp only [ch, hp, cs, ccell, if_pos h6]
          · rcases (show y = 34 ∨ y = 36 by omega) with rfl | rfl <;> rfl
        · simp only [ch, hp, cs, ccell, if_neg h4]
      · simp only [ch, hp, cs, ccell, if_neg h3]
theorem ch_nu {s : Nat} (hs : s < 4) (g : Nat → Int64) : va_up (ch X M q nu vc sb tp by_ sh nn fo kp) (39 + 2 * s) (.inl (gc X 1, 40, .inr (.inl g))) = ch X M q nu vc sb tp by_ sh (va_up nn s g) fo kp := by
  funext y
  by_cases h : y = 39 + 2 * s
  · subst h
    rw [va_up_self, ch_nn hs, va_up_self]
  · rw [va_up_ne _ _ h]
    by_cases h2 : 38 ≤ y ∧ y < 46 ∧ y % 2 = 1
    · obtain ⟨s', hs', rfl⟩ : ∃ s', s' < 4 ∧ y = 39 + 2 * s' := ⟨(y - 39) / 2, by omega, by omega⟩
      have hne : s' ≠ s := by intro e; subst e; exact h rfl
      rw [ch_nn hs', ch_nn hs', va_up_ne _ _ hne]
    · by_cases h3 : y < 46
      · by_cases h4 : y % 2 = 0
        · simp only [ch, hp, cs, ccell, if_pos h4]
        · have h5 : y < 38 := by omega
          by_cases h6 : y < 34
          · simp only [ch, hp, cs, ccell, if_pos h6]
          · rcases (show y = 35 ∨ y = 37 by omega) with rfl | rfl <;> rfl
      · simp only [ch, hp, cs, ccell, if_neg h3]
variable {t0 t1 t2 t3 : Int32}
theorem ch_35v : ch X M q nu vc sb (iv [t0, t1, t2, t3]) by_ sh nn fo kp 35 = .inr (3, [.ref (ga X 36), .int t0, .int t1, .int t2, .int t3]) := rfl
theorem ch_t0 (x : Int32) : va_up (ch X M q nu vc sb (iv [t0, t1, t2, t3]) by_ sh nn fo kp) 35 (.inr (3, ([.ref (ga X 36), .int t0, .int t1, .int t2, .int t3] : List Value).set 1 (.int x))) = ch X M q nu vc sb (iv [x, t1, t2, t3]) by_ sh nn fo kp := by
  funext y
  by_cases h : y = 35
  · subst h; rfl
  · rw [va_up_ne _ _ h]; simp only [ch, hp, cs, ccell, if_neg h]
theorem ch_t1 (x : Int32) : va_up (ch X M q nu vc sb (iv [t0, t1, t2, t3]) by_ sh nn fo kp) 35 (.inr (3, ([.ref (ga X 36), .int t0, .int t1, .int t2, .int t3] : List Value).set 2 (.int x))) = ch X M q nu vc sb (iv [t0, x, t2, t3]) by_ sh nn fo kp := by
  funext y
  by_cases h : y = 35
  · subst h; rfl
  · rw [va_up_ne _ _ h]; simp only [ch, hp, cs, ccell, if_neg h]
theorem ch_t2 (x : Int32) : va_up (ch X M q nu vc sb (iv [t0, t1, t2, t3]) by_ sh nn fo kp) 35 (.inr (3, ([.ref (ga X 36), .int t0, .int t1, .int t2, .int t3] : List Value).set 3 (.int x))) = ch X M q nu vc sb (iv [t0, t1, x, t3]) by_ sh nn fo kp := by
  funext y
  by_cases h : y = 35
  · subst h; rfl
  · rw [va_up_ne _ _ h]; simp only [ch, hp, cs, ccell, if_neg h]
theorem ch_t3 (x : Int32) : va_up (ch X M q nu vc sb (iv [t0, t1, t2, t3]) by_ sh nn fo kp) 35 (.inr (3, ([.ref (ga X 36), .int t0, .int t1, .int t2, .int t3] : List Value).set 4 (.int x))) = ch X M q nu vc sb (iv [t0, t1, t2, x]) by_ sh nn fo kp := by
  funext y
  by_cases h : y = 35
  · subst h; rfl
  · rw [va_up_ne _ _ h]; simp only [ch, hp, cs, ccell, if_neg h]
theorem tv_of (tp : Nat → Int32) : ch X M q nu vc sb tp by_ sh nn fo kp = ch X M q nu vc sb (iv [tp 0, tp 1, tp 2, tp 3]) by_ sh nn fo kp := rfl
end CU