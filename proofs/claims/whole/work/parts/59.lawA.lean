/-! ===== the law: its script, its loop's states ===== -/
def cX (X : Gx) (C : Cx) (b L : Nat) (xs : Nat → Int32) : Prop := match C with
  | (_, _, s, _, _, _, _, _, _, _, _, _) => va_X b L xs s s.heap ∧ b < s.heap.size ∧ ¬ gA X b
theorem v_sld {l : Launch} {X : Gx} {R : Room} {C : Cx} {f : Hp} {pc q : Nat} {lv : Lv} {st : List Value} {cc : ByteArray} {own : String} (hC : cOK X R C cc own) {b L k : Nat} {xs : Nat → Int32} {z : Int32} (hX : cX X C b L xs) (hk : k < L) (hL : L ≤ 3072) (hz : z = nI k) (d : decode cc pc = .ok (.iaload, 1)) (hq : pc + 1 = q) (kk : V l X R C f q lv (.int (xs k) :: st)) : V l X R C f pc lv (.int z :: .ref b :: st) := by
  obtain ⟨p, e, s, m, args, below, meth, c, nL, Q, kc, ks⟩ := C
  subst hq
  intro H locs ls hP hS hl
  subst hz
  have e : (nI k).toNatClampNeg = k := nI_clamp (by omega)
  exact va_sld hC.1 hC.2.1 hX.1 hX.2.1 hX.2.2 hS (vp_in_nI hk (by omega)) d (by rw [e]; exact kk H locs ls hP hS hl)
theorem v_slen {l : Launch} {X : Gx} {R : Room} {C : Cx} {f : Hp} {pc q : Nat} {lv : Lv} {st : List Value} {cc : ByteArray} {own : String} (hC : cOK X R C cc own) {b L : Nat} {xs : Nat → Int32} (hX : cX X C b L xs) (d : decode cc pc = .ok (.arraylength, 1)) (hq : pc + 1 = q) (kk : V l X R C f q lv (.int (nI L) :: st)) : V l X R C f pc lv (.ref b :: st) := by
  obtain ⟨p, e, s, m, args, below, meth, c, nL, Q, kc, ks⟩ := C
  subst hq
  intro H locs ls hP hS hl
  exact va_slen hC.1 hC.2.1 hX.1 hX.2.1 hX.2.2 hS d (kk H locs ls hP hS hl)
def NX (l : Launch) (X : Gx) (C : Cx) (b j pc : Nat) : Prop := ∀ (i m : Nat → Int32) (r : Nat → Nat → Int32) (c : Nat → Int64) (q nu : Nat → Nat → Int32) (vc : Nat → Nat → Nat → Int32) (sb : Nat → Nat → Int32) (tp by_ : Nat → Int32) (sh : Nat → Nat → Int32) (nn : Nat → Nat → Int64) (fo : Nat → Int32) (kp : Int32), Rel i m r c q nu vc tp by_ sh nn fo kp → V l X room_1 C (ch X (i, m, r, c) q nu vc sb tp by_ sh nn fo kp) pc [some (.ref b), some (.ref (ga X 0)), some (.ref (ga X 47)), some (.int (nI (6 * j)))] []
theorem n6 (j d : Nat) : nI (6 * j) + nI d = nI (6 * j + d) := nI_add (6 * j) d
theorem wr_fo {bt sz : Nat → Int32} {cq : Nat → Nat → Int64} {s i : Int32} {x : Nat × Nat} (h : gWr bt sz s i = some x) : ∃ z, S_write bt sz cq s i = .inr z := by
  unfold gWr at h
  unfold S_write
  cases e : nT bt s with
  | inl k => rw [e] at h; cases h
  | inr Q =>
    rw [e] at h
    dsimp only at h ⊢
    split at h
    · rename_i hc; rw [if_pos hc]; exact ⟨_, rfl⟩
    · cases h
theorem sh_fo {s b n : Int32} {Q : Nat} (h : gSh s b n = some Q) : (∃ z, S_sheet s b n = .inr z) ∧ Q < 4 ∧ ∃ z, z ≤ 40 ∧ n = nI z := by
  unfold gSh at h
  unfold S_sheet
  cases e : pIx 4 s with
  | none => rw [e] at h; cases h
  | some P =>
    rw [e] at h
    dsimp only at h ⊢
    split at h
    · rename_i hc
      cases h
      rw [if_pos hc.1, if_neg hc.2.1, if_pos hc.2.2]
      obtain ⟨W, -, hW, rfl⟩ := w_of' (a := 0) (N := 40) (by decide) (by decide) (Int32.not_lt.mp hc.2.1) hc.2.2
      exact ⟨⟨_, rfl⟩, (pIx_some (by decide) e).1, W, hW, rfl⟩
    · cases h
theorem wr_ix {bt sz : Nat → Int32} (hZ : szOK sz) {s i : Int32} {Q k : Nat} (h : gWr bt sz s i = some (Q, k)) : Q < 4 ∧ k < 40 := by
  unfold gWr at h
  cases e : nT bt s with
  | inl k => rw [e] at h; cases h
  | inr Q1 =>
    rw [e] at h
    dsimp only at h
    obtain ⟨hQ, -, -⟩ := nT_ok e
    obtain ⟨z, hz, hsz⟩ := hZ Q1 hQ
    split at h
    · rename_i hc
      cases h
      rw [hsz, isK_iff hz] at hc
      obtain ⟨J, hJ, rfl⟩ := hc
      rw [nI_clamp (by omega)]
      exact ⟨hQ, by omega⟩
    · cases h
theorem cg_write {bt sz : Nat → Int32} (hZ : szOK sz) {cq cq' : Nat → Nat → Int64} (h : ∀ s, s < 4 → ∀ k, k < 40 → cq s k = cq' s k) {s i : Int32} : S_write bt sz cq s i = S_write bt sz cq' s i := by
  unfold S_write
  cases e : nT bt s with
  | inl k => rfl
  | inr Q =>
    dsimp only
    obtain ⟨hQ, -, -⟩ := nT_ok e
    obtain ⟨z, hz, hsz⟩ := hZ Q hQ
    by_cases hc : 0 ≤ i ∧ i ≤ sz Q - 1
    · rw [if_pos hc, if_pos hc]
      rw [hsz, isK_iff hz] at hc
      obtain ⟨J, hJ, rfl⟩ := hc
      rw [nI_clamp (by omega), h Q hQ J (by omega)]
    · rw [if_neg hc, if_neg hc]
theorem cg_lays {bt sz : Nat → Int32} (hZ : szOK sz) {cq cq' : Nat → Nat → Int64} (h : ∀ s, s < 4 → ∀ k, k < 40 → cq s k = cq' s k) {n : Nat} {s : Int32} : S_lays bt sz cq n s = S_lays bt sz cq' n s := by
  unfold S_lays
  cases e : nT bt s with
  | inl k => rfl
  | inr Q =>
    dsimp only
    obtain ⟨hQ, -, -⟩ := nT_ok e
    obtain ⟨z, hz, hsz⟩ := hZ Q hQ
    rw [hsz, nI_clamp (by omega), lays_cg _ (fun j hj => h Q hQ j (by omega))]
theorem qR_lay {bt sz : Nat → Int32} (hZ : szOK sz) {cq cq' : Nat → Nat → Int64} (h : ∀ s, s < 4 → ∀ k, k < 40 → cq s k = cq' s k) {m : Nat → Int32} {n : Nat} {qq nq : Nat → Int32} {vv : Nat → Nat → Int32} (hQ : qR m n qq nq vv) {s : Int32} : qR (M_lays bt sz cq' n m s) n qq nq (V_lays bt sz cq n vv s) := by
  unfold M_lays V_lays
  cases e : nT bt s with
  | inl k => exact hQ
  | inr Q =>
    dsimp only
    obtain ⟨hQ4, -, -⟩ := nT_ok e
    obtain ⟨z, hz, hsz⟩ := hZ Q hQ4
    rw [hsz, nI_clamp (by omega), ← laM_cg (cq := cq Q) _ (fun j hj => h Q hQ4 j (by omega))]
    exact qR_lays hQ _ (by omega)
theorem cg_read {bt sz : Nat → Int32} (hZ : szOK sz) {cq cq' : Nat → Nat → Int64} (h : ∀ s, s < 4 → ∀ k, k < 40 → cq s k = cq' s k) {n : Nat} (h8 : n ≤ 8) {g g' : Nat → Nat → Int32} (hg : ∀ p, p < n → g p = g' p) {s p : Int32} : S_read bt sz cq g n s p = S_read bt sz cq' g' n s p := by
  unfold S_read
  cases e : nA bt n s p with
  | inl k => rfl
  | inr x =>
    obtain ⟨Q, P⟩ := x
    dsimp only
    obtain ⟨hQ, -, -, hP, -⟩ := nA_ok h8 e
    obtain ⟨z, hz, hsz⟩ := hZ Q hQ
    rw [hsz, nI_clamp (by omega), hg P hP, rd_cg (fun j hj => h Q hQ j (by omega))]
theorem nn_book {bt sz : Nat → Int32} (hZ : szOK sz) {nn : Nat → Nat → Int64} {c : Nat → Int64} (h : ∀ s, s < 4 → ∀ k, k < 40 → nn s k = c (40 * s + k)) {n : Nat} (h8 : n ≤ 8) {g g' : Nat → Nat → Int32} (hg : ∀ p, p < n → g p = g' p) {s p : Int32} : ∀ t, t < 4 → ∀ k, k < 40 → N_book bt sz g nn n s p t k = C_book bt sz g' c n s p (40 * t + k) := by
  intro t ht k hk
  unfold N_book C_book
  cases e : nA bt n s p with
  | inl _ => exact h t ht k hk
  | inr x =>
    obtain ⟨Q, P⟩ := x
    dsimp only
    obtain ⟨hQ, -, -, hP, -⟩ := nA_ok h8 e
    obtain ⟨z, hz, hsz⟩ := hZ Q hQ
    rw [hsz, nI_clamp (by omega), hg P hP]
    by_cases e1 : t = Q
    · subst e1
      rw [va_up_self, mixN, bkC]
      by_cases e2 : k < z
      · rw [if_pos e2, if_pos (by omega), show 40 * t + k - 40 * t = k by omega]
      · rw [if_neg e2, if_neg (by omega)]; exact h t ht k hk
    · rw [va_up_ne _ _ e1, bkC, if_neg (by omega)]; exact h t ht k hk
theorem nn_copy {bt sz : Nat → Int32} (hZ : szOK sz) {nn : Nat → Nat → Int64} {c : Nat → Int64} (h : ∀ s, s < 4 → ∀ k, k < 40 → nn s k = c (40 * s + k)) {s a t b n : Int32} : ∀ x, x < 4 → ∀ k, k < 40 → N_copy bt sz nn s a t b n x k = C_copy bt sz c s a t b n (40 * x + k) := by
  intro x hx k hk
  unfold N_copy C_copy
  cases e : nC bt sz s a t b n with
  | inl _ => exact h x hx k hk
  | inr y =>
    obtain ⟨Q, U⟩ := y
    dsimp only
    obtain ⟨hQ, -, hU, -, A, B, N, rfl, rfl, rfl, hA, hB, -, -⟩ := nC_ok hZ e
    rw [nI_clamp (by omega), nI_clamp (by omega), nI_clamp (by omega)]
    by_cases e1 : x = U
    · subst e1
      rw [va_up_self, va_cpy, cpC]
      by_cases e2 : B ≤ k ∧ k < B + N
      · rw [if_pos e2, if_pos (by omega), h Q hQ _ (by omega)]
        congr 1
        omega
      · rw [if_neg e2, if_neg (by omega)]; exact h x hx k hk
    · rw [va_up_ne _ _ e1, cpC, if_neg (by omega)]; exact h x hx k hk
theorem nn_write {nn : Nat → Nat → Int64} {c : Nat → Int64} (h : ∀ s, s < 4 → ∀ k, k < 40 → nn s k = c (40 * s + k)) {Q K : Nat} (hQ : Q < 4) (hK : K < 40) {v : Int64} : ∀ x, x < 4 → ∀ k, k < 40 → va_up nn Q (vp_updL (nn Q) K v) x k = vp_updL c (40 * Q + K) v (40 * x + k) := by
  intro x hx k hk
  by_cases e1 : x = Q
  · subst e1
    rw [va_up_self]
    simp only [vp_updL]
    by_cases e2 : k = K
    · rw [if_pos e2, if_pos (by omega)]
    · rw [if_neg e2, if_neg (by omega)]; exact h x hx k hk
  · rw [va_up_ne _ _ e1]
    simp only [vp_updL]
    rw [if_neg (by omega)]
    exact h x hx k hk
theorem nn_sheet {nn : Nat → Nat → Int64} {c : Nat → Int64} (h : ∀ s, s < 4 → ∀ k, k < 40 → nn s k = c (40 * s + k)) {Q : Nat} : ∀ x, x < 4 → ∀ k, k < 40 → va_up nn Q (mixN 40 (fun _ => 0) (nn Q)) x k = zrK c Q 40 (40 * x + k) := by
  intro x hx k hk
  by_cases e1 : x = Q
  · subst e1
    rw [va_up_self, mixN, if_pos hk, zrK, if_pos (by omega)]
  · rw [va_up_ne _ _ e1, zrK, if_neg (by omega)]; exact h x hx k hk
theorem sh_up0 {sh : Nat → Nat → Int32} {r5 : Nat → Int32} {Q : Nat} {b z : Int32} (h : (fun s => sh s 0) = r5) : (fun s => va_up sh Q (upd (upd (sh Q) 0 b) 1 z) s 0) = upd r5 Q b := by
  subst h
  funext s
  by_cases e : s = Q
  · subst e; rw [va_up_self]; simp [upd]
  · rw [va_up_ne _ _ e]; simp [upd, e]
theorem sh_up1 {sh : Nat → Nat → Int32} {r6 : Nat → Int32} {Q : Nat} {b z : Int32} (h : (fun s => sh s 1) = r6) : (fun s => va_up sh Q (upd (upd (sh Q) 0 b) 1 z) s 1) = upd r6 Q z := by
  subst h
  funext s
  by_cases e : s = Q
  · subst e; rw [va_up_self]; simp [upd]
  · rw [va_up_ne _ _ e]; simp [upd, e]
theorem sz_up {r6 : Nat → Int32} (h : szOK r6) {Q : Nat} {b n : Int32} {z : Nat} (hz : z ≤ 40) (hn : n = nI z) : szOK (upd r6 Q (if b = 0 then 0 else n)) := by
  intro P hP
  by_cases e : P = Q
  · subst e
    simp only [upd, if_true]
    by_cases hb : b = 0
    · rw [if_pos hb]; exact ⟨0, by decide, rfl⟩
    · rw [if_neg hb]; exact ⟨z, hz, hn⟩
  · simp only [upd, if_neg e]; exact h P hP
set_option maxHeartbeats 4000000 in
set_option maxRecDepth 100000 in
theorem law_person {l : Launch} {X : Gx} {C : Cx} {b L j : Nat} {xs : Nat → Int32} (hC : cOK X room_1 C cL_law RL) (hX : cX X C b L xs) (hL : L ≤ 3072) (hj : 6 * (j + 1) ≤ L) (nx : NX l X C b j 1241) {i m : Nat → Int32} {r : Nat → Nat → Int32} {c : Nat → Int64} {q nu : Nat → Nat → Int32} {vc : Nat → Nat → Nat → Int32} {sb : Nat → Nat → Int32} {tp by_ : Nat → Int32} {sh : Nat → Nat → Int32} {nn : Nat → Nat → Int64} {fo : Nat → Int32} {kp : Int32} (hRel : Rel i m r c q nu vc tp by_ sh nn fo kp) : V l X room_1 C (ch X (i, m, r, c) q nu vc sb tp by_ sh nn fo kp) 192 [some (.ref b), some (.ref (ga X 0)), some (.ref (ga X 47)), some (.int (nI (6 * j)))] [] := by
  have hRel0 := hRel
  obtain ⟨n, T, hQ, hKp, ⟨ht, hi, hT⟩, rfl, rfl, rfl, hb0, hb1, hZ, hnn⟩ := hRel
  have hQ1 := hQ
  obtain ⟨h8, hm1, hN, hd, hnu, hvv, hok⟩ := hQ1
  by_cases hc : (0 ≤ (xs (6 * j + 1)) ∧ (xs (6 * j + 1)) ≤ 5 ∧ n < 8)
  · refine v_aload_n hC rfl dL_law_192 (q := 193) rfl ?_
    refine v_aload_n hC rfl dL_law_193 (q := 194) rfl ?_
    refine v_iload_n hC rfl dL_law_194 (q := 195) rfl ?_
    refine v_iconst hC (v := 1) rfl dL_law_195 (q := 196) rfl ?_
    refine v_iadd hC dL_law_196 (q := 197) rfl ?_
    refine v_sld hC hX (k := 6 * j + 1) (by omega) hL (n6 j 1) dL_law_197 (q := 198) rfl ?_
    refine v_Vi hC lkV_L_13 (c_X5_person hN h8 hnu hok) rfl (by decide) (k := 0) (by decide) ch_0 rfl rfl (Nat.le_of_ble_eq_true rfl) dL_law_198 (q := 201) rfl ?_
    rintro _ _ ⟨rfl, rfl⟩
    rw [if_pos hc]
    refine v_aload_n hC rfl dL_law_201 (q := 202) rfl ?_
    refine v_aload_n hC rfl dL_law_202 (q := 203) rfl ?_
    refine v_iload_n hC rfl dL_law_203 (q := 204) rfl ?_
    refine v_iconst hC (v := 1) rfl dL_law_204 (q := 205) rfl ?_
    refine v_iadd hC dL_law_205 (q := 206) rfl ?_
    refine v_sld hC hX (k := 6 * j + 1) (by omega) hL (n6 j 1) dL_law_206 (q := 207) rfl ?_
    refine v_Vi hC lkV_L_17 (c_X6_person hm1 h8) rfl (by decide) (k := 47) (by decide) hp_47 rfl rfl (Nat.le_of_ble_eq_true rfl) dL_law_207 (q := 210) rfl ?_
    rintro _ _ ⟨rfl, rfl⟩
    rw [if_pos hc]
    refine v_icmp_eq hC dL_law_210 (t := 1241) rfl (q := 213) rfl (fun _ => ?_) (fun h => absurd (rfl) h)
    have hS : S_person n (xs (6 * j + 1)) = .inr (nI n) := by rw [S_person, if_pos ⟨hc.1, hc.2.1⟩, if_neg (by omega)]
    rw [hS]
    exact nx _ _ _ _ _ _ _ _ _ _ _ _ _ _ ⟨n + 1, T, qR_new hQ hc.2.2 (okV_new ⟨hc.1, hc.2.1⟩ ⟨by decide, by decide⟩ (by decide)), hKp, ⟨ht, hi, hT⟩, rfl, rfl, rfl, hb0, hb1, hZ, hnn⟩
  · refine v_aload_n hC rfl dL_law_192 (q := 193) rfl ?_
    refine v_aload_n hC rfl dL_law_193 (q := 194) rfl ?_
    refine v_iload_n hC rfl dL_law_194 (q := 195) rfl ?_
    refine v_iconst hC (v := 1) rfl dL_law_195 (q := 196) rfl ?_
    refine v_iadd hC dL_law_196 (q := 197) rfl ?_
    refine v_sld hC hX (k := 6 * j + 1) (by omega) hL (n6 j 1) dL_law_197 (q := 198) rfl ?_
    refine v_Vi hC lkV_L_13 (c_X5_person hN h8 hnu hok) rfl (by decide) (k := 0) (by decide) ch_0 rfl rfl (Nat.le_of_ble_eq_true rfl) dL_law_198 (q := 201) rfl ?_
    rintro _ _ ⟨rfl, rfl⟩
    rw [if_neg hc]
    refine v_aload_n hC rfl dL_law_201 (q := 202) rfl ?_
    refine v_aload_n hC rfl dL_law_202 (q := 203) rfl ?_
    refine v_iload_n hC rfl dL_law_203 (q := 204) rfl ?_
    refine v_iconst hC (v := 1) rfl dL_law_204 (q := 205) rfl ?_
    refine v_iadd hC dL_law_205 (q := 206) rfl ?_
    refine v_sld hC hX (k := 6 * j + 1) (by omega) hL (n6 j 1) dL_law_206 (q := 207) rfl ?_
    refine v_Vi hC lkV_L_17 (c_X6_person hm1 h8) rfl (by decide) (k := 47) (by decide) hp_47 rfl rfl (Nat.le_of_ble_eq_true rfl) dL_law_207 (q := 210) rfl ?_
    rintro _ _ ⟨rfl, rfl⟩
    rw [if_neg hc]
    refine v_icmp_eq hC dL_law_210 (t := 1241) rfl (q := 213) rfl (fun _ => ?_) (fun h => absurd (rfl) h)
    exact nx _ _ _ _ _ _ _ _ _ _ _ _ _ _ (rel_fn hRel0)

set_option maxHeartbeats 4000000 in
set_option maxRecDepth 100000 in
theorem law_of {l : Launch} {X : Gx} {C : Cx} {b L j : Nat} {xs : Nat → Int32} (hC : cOK X room_1 C cL_law RL) (hX : cX X C b L xs) (hL : L ≤ 3072) (hj : 6 * (j + 1) ≤ L) (nx : NX l X C b j 1241) {i m : Nat → Int32} {r : Nat → Nat → Int32} {c : Nat → Int64} {q nu : Nat → Nat → Int32} {vc : Nat → Nat → Nat → Int32} {sb : Nat → Nat → Int32} {tp by_ : Nat → Int32} {sh : Nat → Nat → Int32} {nn : Nat → Nat → Int64} {fo : Nat → Int32} {kp : Int32} (hRel : Rel i m r c q nu vc tp by_ sh nn fo kp) : V l X room_1 C (ch X (i, m, r, c) q nu vc sb tp by_ sh nn fo kp) 215 [some (.ref b), some (.ref (ga X 0)), some (.ref (ga X 47)), some (.int (nI (6 * j)))] [] := by
  have hRel0 := hRel
  obtain ⟨n, T, hQ, hKp, ⟨ht, hi, hT⟩, rfl, rfl, rfl, hb0, hb1, hZ, hnn⟩ := hRel
  have hQ1 := hQ
  obtain ⟨h8, hm1, hN, hd, hnu, hvv, hok⟩ := hQ1
  refine v_aload_n hC rfl dL_law_215 (q := 216) rfl ?_
  refine v_aload_n hC rfl dL_law_216 (q := 217) rfl ?_
  refine v_iload_n hC rfl dL_law_217 (q := 218) rfl ?_
  refine v_iconst hC (v := 1) rfl dL_law_218 (q := 219) rfl ?_
  refine v_iadd hC dL_law_219 (q := 220) rfl ?_
  refine v_sld hC hX (k := 6 * j + 1) (by omega) hL (n6 j 1) dL_law_220 (q := 221) rfl ?_
  refine v_aload_n hC rfl dL_law_221 (q := 222) rfl ?_
  refine v_iload_n hC rfl dL_law_222 (q := 223) rfl ?_
  refine v_iconst hC (v := 2) rfl dL_law_223 (q := 224) rfl ?_
  refine v_iadd hC dL_law_224 (q := 225) rfl ?_
  refine v_sld hC hX (k := 6 * j + 2) (by omega) hL (n6 j 2) dL_law_225 (q := 226) rfl ?_
  refine v_Vi hC lkV_L_18 (c_X5_of hN h8 hnu hok) rfl (by decide) (k := 0) (by decide) ch_0 rfl rfl (Nat.le_of_ble_eq_true rfl) dL_law_226 (q := 229) rfl ?_
  rintro _ _ ⟨rfl, rfl⟩
  rw [cg_of h8 hvv]
  refine v_aload_n hC rfl dL_law_229 (q := 230) rfl ?_
  refine v_aload_n hC rfl dL_law_230 (q := 231) rfl ?_
  refine v_iload_n hC rfl dL_law_231 (q := 232) rfl ?_
  refine v_iconst hC (v := 1) rfl dL_law_232 (q := 233) rfl ?_
  refine v_iadd hC dL_law_233 (q := 234) rfl ?_
  refine v_sld hC hX (k := 6 * j + 1) (by omega) hL (n6 j 1) dL_law_234 (q := 235) rfl ?_
  refine v_aload_n hC rfl dL_law_235 (q := 236) rfl ?_
  refine v_iload_n hC rfl dL_law_236 (q := 237) rfl ?_
  refine v_iconst hC (v := 2) rfl dL_law_237 (q := 238) rfl ?_
  refine v_iadd hC dL_law_238 (q := 239) rfl ?_
  refine v_sld hC hX (k := 6 * j + 2) (by omega) hL (n6 j 2) dL_law_239 (q := 240) rfl ?_
  refine v_Vi hC lkV_L_22 (c_X6_of hm1 h8) rfl (by decide) (k := 47) (by decide) hp_47 rfl rfl (Nat.le_of_ble_eq_true rfl) dL_law_240 (q := 243) rfl ?_
  rintro _ _ ⟨rfl, rfl⟩
  refine v_icmp_eq hC dL_law_243 (t := 1241) rfl (q := 246) rfl (fun _ => ?_) (fun h => absurd (rfl) h)
  exact nx _ _ _ _ _ _ _ _ _ _ _ _ _ _ (rel_fn hRel0)

set_option maxHeartbeats 4000000 in
set_option maxRecDepth 100000 in
theorem law_set {l : Launch} {X : Gx} {C : Cx} {b L j : Nat} {xs : Nat → Int32} (hC : cOK X room_1 C cL_law RL) (hX : cX X C b L xs) (hL : L ≤ 3072) (hj : 6 * (j + 1) ≤ L) (nx : NX l X C b j 1241) {i m : Nat → Int32} {r : Nat → Nat → Int32} {c : Nat → Int64} {q nu : Nat → Nat → Int32} {vc : Nat → Nat → Nat → Int32} {sb : Nat → Nat → Int32} {tp by_ : Nat → Int32} {sh : Nat → Nat → Int32} {nn : Nat → Nat → Int64} {fo : Nat → Int32} {kp : Int32} (hRel : Rel i m r c q nu vc tp by_ sh nn fo kp) : V l X room_1 C (ch X (i, m, r, c) q nu vc sb tp by_ sh nn fo kp) 248 [some (.ref b), some (.ref (ga X 0)), some (.ref (ga X 47)), some (.int (nI (6 * j)))] [] := by
  have hRel0 := hRel
  obtain ⟨n, T, hQ, hKp, ⟨ht, hi, hT⟩, rfl, rfl, rfl, hb0, hb1, hZ, hnn⟩ := hRel
  have hQ1 := hQ
  obtain ⟨h8, hm1, hN, hd, hnu, hvv, hok⟩ := hQ1
  refine v_aload_n hC rfl dL_law_248 (q := 249) rfl ?_
  refine v_aload_n hC rfl dL_law_249 (q := 250) rfl ?_
  refine v_iload_n hC rfl dL_law_250 (q := 251) rfl ?_
  refine v_iconst hC (v := 1) rfl dL_law_251 (q := 252) rfl ?_
  refine v_iadd hC dL_law_252 (q := 253) rfl ?_
  refine v_sld hC hX (k := 6 * j + 1) (by omega) hL (n6 j 1) dL_law_253 (q := 254) rfl ?_
  refine v_aload_n hC rfl dL_law_254 (q := 255) rfl ?_
  refine v_iload_n hC rfl dL_law_255 (q := 256) rfl ?_
  refine v_iconst hC (v := 2) rfl dL_law_256 (q := 257) rfl ?_
  refine v_iadd hC dL_law_257 (q := 258) rfl ?_
  refine v_sld hC hX (k := 6 * j + 2) (by omega) hL (n6 j 2) dL_law_258 (q := 259) rfl ?_
  refine v_aload_n hC rfl dL_law_259 (q := 260) rfl ?_
  refine v_iload_n hC rfl dL_law_260 (q := 261) rfl ?_
  refine v_iconst hC (v := 3) rfl dL_law_261 (q := 262) rfl ?_
  refine v_iadd hC dL_law_262 (q := 263) rfl ?_
  refine v_sld hC hX (k := 6 * j + 3) (by omega) hL (n6 j 3) dL_law_263 (q := 264) rfl ?_
  refine v_Vi hC lkV_L_23 (c_X5_set hN h8 hnu hok) rfl (by decide) (k := 0) (by decide) ch_0 rfl rfl (Nat.le_of_ble_eq_true rfl) dL_law_264 (q := 267) rfl ?_
  rintro _ _ ⟨rfl, rfl⟩
  rw [cg_set h8 hvv]
  refine v_aload_n hC rfl dL_law_267 (q := 268) rfl ?_
  refine v_aload_n hC rfl dL_law_268 (q := 269) rfl ?_
  refine v_iload_n hC rfl dL_law_269 (q := 270) rfl ?_
  refine v_iconst hC (v := 1) rfl dL_law_270 (q := 271) rfl ?_
  refine v_iadd hC dL_law_271 (q := 272) rfl ?_
  refine v_sld hC hX (k := 6 * j + 1) (by omega) hL (n6 j 1) dL_law_272 (q := 273) rfl ?_
  refine v_aload_n hC rfl dL_law_273 (q := 274) rfl ?_
  refine v_iload_n hC rfl dL_law_274 (q := 275) rfl ?_
  refine v_iconst hC (v := 2) rfl dL_law_275 (q := 276) rfl ?_
  refine v_iadd hC dL_law_276 (q := 277) rfl ?_
  refine v_sld hC hX (k := 6 * j + 2) (by omega) hL (n6 j 2) dL_law_277 (q := 278) rfl ?_
  refine v_aload_n hC rfl dL_law_278 (q := 279) rfl ?_
  refine v_iload_n hC rfl dL_law_279 (q := 280) rfl ?_
  refine v_iconst hC (v := 3) rfl dL_law_280 (q := 281) rfl ?_
  refine v_iadd hC dL_law_281 (q := 282) rfl ?_
  refine v_sld hC hX (k := 6 * j + 3) (by omega) hL (n6 j 3) dL_law_282 (q := 283) rfl ?_
  refine v_Vi hC lkV_L_27 (c_X6_set hm1 h8) rfl (by decide) (k := 47) (by decide) hp_47 rfl rfl (Nat.le_of_ble_eq_true rfl) dL_law_283 (q := 286) rfl ?_
  rintro _ _ ⟨rfl, rfl⟩
  refine v_icmp_eq hC dL_law_286 (t := 1241) rfl (q := 289) rfl (fun _ => ?_) (fun h => absurd (rfl) h)
  exact nx _ _ _ _ _ _ _ _ _ _ _ _ _ _ (rel_fn ⟨n, T, qR_set hQ, hKp, ⟨ht, hi, hT⟩, rfl, rfl, rfl, hb0, hb1, hZ, hnn⟩)

set_option maxHeartbeats 4000000 in
set_option maxRecDepth 100000 in
theorem law_turn {l : Launch} {X : Gx} {C : Cx} {b L j : Nat} {xs : Nat → Int32} (hC : cOK X room_1 C cL_law RL) (hX : cX X C b L xs) (hL : L ≤ 3072) (hj : 6 * (j + 1) ≤ L) (nx : NX l X C b j 1241) {i m : Nat → Int32} {r : Nat → Nat → Int32} {c : Nat → Int64} {q nu : Nat → Nat → Int32} {vc : Nat → Nat → Nat → Int32} {sb : Nat → Nat → Int32} {tp by_ : Nat → Int32} {sh : Nat → Nat → Int32} {nn : Nat → Nat → Int64} {fo : Nat → Int32} {kp : Int32} (hRel : Rel i m r c q nu vc tp by_ sh nn fo kp) : V l X room_1 C (ch X (i, m, r, c) q nu vc sb tp by_ sh nn fo kp) 291 [some (.ref b), some (.ref (ga X 0)), some (.ref (ga X 47)), some (.int (nI (6 * j)))] [] := by
  have hRel0 := hRel
  obtain ⟨n, T, hQ, hKp, ⟨ht, hi, hT⟩, rfl, rfl, rfl, hb0, hb1, hZ, hnn⟩ := hRel
  have hQ1 := hQ
  obtain ⟨h8, hm1, hN, hd, hnu, hvv, hok⟩ := hQ1
  refine v_aload_n hC rfl dL_law_291 (q := 292) rfl ?_
  refine v_aload_n hC rfl dL_law_292 (q := 293) rfl ?_
  refine v_iload_n hC rfl dL_law_293 (q := 294) rfl ?_
  refine v_iconst hC (v := 1) rfl dL_law_294 (q := 295) rfl ?_
  refine v_iadd hC dL_law_295 (q := 296) rfl ?_
  refine v_sld hC hX (k := 6 * j + 1) (by omega) hL (n6 j 1) dL_law_296 (q := 297) rfl ?_
  refine v_aload_n hC rfl dL_law_297 (q := 298) rfl ?_
  refine v_iload_n hC rfl dL_law_298 (q := 299) rfl ?_
  refine v_iconst hC (v := 2) rfl dL_law_299 (q := 300) rfl ?_
  refine v_iadd hC dL_law_300 (q := 301) rfl ?_
  refine v_sld hC hX (k := 6 * j + 2) (by omega) hL (n6 j 2) dL_law_301 (q := 302) rfl ?_
  refine v_Vi hC lkV_L_28 (c_X5_turn hN h8 hnu hok) rfl (by decide) (k := 0) (by decide) ch_0 rfl rfl (Nat.le_of_ble_eq_true rfl) dL_law_302 (q := 305) rfl ?_
  rintro _ _ ⟨rfl, rfl⟩
  rw [cg_turn h8 hvv]
  refine v_aload_n hC rfl dL_law_305 (q := 306) rfl ?_
  refine v_aload_n hC rfl dL_law_306 (q := 307) rfl ?_
  refine v_iload_n hC rfl dL_law_307 (q := 308) rfl ?_
  refine v_iconst hC (v := 1) rfl dL_law_308 (q := 309) rfl ?_
  refine v_iadd hC dL_law_309 (q := 310) rfl ?_
  refine v_sld hC hX (k := 6 * j + 1) (by omega) hL (n6 j 1) dL_law_310 (q := 311) rfl ?_
  refine v_aload_n hC rfl dL_law_311 (q := 312) rfl ?_
  refine v_iload_n hC rfl dL_law_312 (q := 313) rfl ?_
  refine v_iconst hC (v := 2) rfl dL_law_313 (q := 314) rfl ?_
  refine v_iadd hC dL_law_314 (q := 315) rfl ?_
  refine v_sld hC hX (k := 6 * j + 2) (by omega) hL (n6 j 2) dL_law_315 (q := 316) rfl ?_
  refine v_Vi hC lkV_L_31 (c_X6_turn hm1 h8) rfl (by decide) (k := 47) (by decide) hp_47 rfl rfl (Nat.le_of_ble_eq_true rfl) dL_law_316 (q := 319) rfl ?_
  rintro _ _ ⟨rfl, rfl⟩
  refine v_icmp_eq hC dL_law_319 (t := 1241) rfl (q := 322) rfl (fun _ => ?_) (fun h => absurd (rfl) h)
  exact nx _ _ _ _ _ _ _ _ _ _ _ _ _ _ (rel_fn ⟨n, T, qR_turn hQ, hKp, ⟨ht, hi, hT⟩, rfl, rfl, rfl, hb0, hb1, hZ, hnn⟩)

set_option maxHeartbeats 4000000 in
set_option maxRecDepth 100000 in
theorem law_as {l : Launch} {X : Gx} {C : Cx} {b L j : Nat} {xs : Nat → Int32} (hC : cOK X room_1 C cL_law RL) (hX : cX X C b L xs) (hL : L ≤ 3072) (hj : 6 * (j + 1) ≤ L) (nx : NX l X C b j 1241) {i m : Nat → Int32} {r : Nat → Nat → Int32} {c : Nat → Int64} {q nu : Nat → Nat → Int32} {vc : Nat → Nat → Nat → Int32} {sb : Nat → Nat → Int32} {tp by_ : Nat → Int32} {sh : Nat → Nat → Int32} {nn : Nat → Nat → Int64} {fo : Nat → Int32} {kp : Int32} (hRel : Rel i m r c q nu vc tp by_ sh nn fo kp) : V l X room_1 C (ch X (i, m, r, c) q nu vc sb tp by_ sh nn fo kp) 324 [some (.ref b), some (.ref (ga X 0)), some (.ref (ga X 47)), some (.int (nI (6 * j)))] [] := by
  have hRel0 := hRel
  obtain ⟨n, T, hQ, hKp, ⟨ht, hi, hT⟩, rfl, rfl, rfl, hb0, hb1, hZ, hnn⟩ := hRel
  have hQ1 := hQ
  obtain ⟨h8, hm1, hN, hd, hnu, hvv, hok⟩ := hQ1
  refine v_aload_n hC rfl dL_law_324 (q := 325) rfl ?_
  refine v_aload_n hC rfl dL_law_325 (q := 326) rfl ?_
  refine v_iload_n hC rfl dL_law_326 (q := 327) rfl ?_
  refine v_iconst hC (v := 1) rfl dL_law_327 (q := 328) rfl ?_
  refine v_iadd hC dL_law_328 (q := 329) rfl ?_
  refine v_sld hC hX (k := 6 * j + 1) (by omega) hL (n6 j 1) dL_law_329 (q := 330) rfl ?_
  refine v_aload_n hC rfl dL_law_330 (q := 331) rfl ?_
  refine v_iload_n hC rfl dL_law_331 (q := 332) rfl ?_
  refine v_iconst hC (v := 2) rfl dL_law_332 (q := 333) rfl ?_
  refine v_iadd hC dL_law_333 (q := 334) rfl ?_
  refine v_sld hC hX (k := 6 * j + 2) (by omega) hL (n6 j 2) dL_law_334 (q := 335) rfl ?_
  refine v_Vi hC lkV_L_32 (c_X5_as hN h8 hnu hok) rfl (by decide) (k := 0) (by decide) ch_0 rfl rfl (Nat.le_of_ble_eq_true rfl) dL_law_335 (q := 338) rfl ?_
  rintro _ _ ⟨rfl, rfl⟩
  rw [cg_as h8 hvv]
  refine v_aload_n hC rfl dL_law_338 (q := 339) rfl ?_
  refine v_aload_n hC rfl dL_law_339 (q := 340) rfl ?_
  refine v_iload_n hC rfl dL_law_340 (q := 341) rfl ?_
  refine v_iconst hC (v := 1) rfl dL_law_341 (q := 342) rfl ?_
  refine v_iadd hC dL_law_342 (q := 343) rfl ?_
  refine v_sld hC hX (k := 6 * j + 1) (by omega) hL (n6 j 1) dL_law_343 (q := 344) rfl ?_
  refine v_aload_n hC rfl dL_law_344 (q := 345) rfl ?_
  refine v_iload_n hC rfl dL_law_345 (q := 346) rfl ?_
  refine v_iconst hC (v := 2) rfl dL_law_346 (q := 347) rfl ?_
  refine v_iadd hC dL_law_347 (q := 348) rfl ?_
  refine v_sld hC hX (k := 6 * j + 2) (by omega) hL (n6 j 2) dL_law_348 (q := 349) rfl ?_
  refine v_Vi hC lkV_L_35 (c_X6_as hm1 h8) rfl (by decide) (k := 47) (by decide) hp_47 rfl rfl (Nat.le_of_ble_eq_true rfl) dL_law_349 (q := 352) rfl ?_
  rintro _ _ ⟨rfl, rfl⟩
  refine v_icmp_eq hC dL_law_352 (t := 1241) rfl (q := 355) rfl (fun _ => ?_) (fun h => absurd (rfl) h)
  exact nx _ _ _ _ _ _ _ _ _ _ _ _ _ _ (rel_fn hRel0)

set_option maxHeartbeats 4000000 in
set_option maxRecDepth 100000 in
theorem law_grind {l : Launch} {X : Gx} {C : Cx} {b L j : Nat} {xs : Nat → Int32} (hC : cOK X room_1 C cL_law RL) (hX : cX X C b L xs) (hL : L ≤ 3072) (hj : 6 * (j + 1) ≤ L) (nx : NX l X C b j 1241) {i m : Nat → Int32} {r : Nat → Nat → Int32} {c : Nat → Int64} {q nu : Nat → Nat → Int32} {vc : Nat → Nat → Nat → Int32} {sb : Nat → Nat → Int32} {tp by_ : Nat → Int32} {sh : Nat → Nat → Int32} {nn : Nat → Nat → Int64} {fo : Nat → Int32} {kp : Int32} (hRel : Rel i m r c q nu vc tp by_ sh nn fo kp) : V l X room_1 C (ch X (i, m, r, c) q nu vc sb tp by_ sh nn fo kp) 357 [some (.ref b), some (.ref (ga X 0)), some (.ref (ga X 47)), some (.int (nI (6 * j)))] [] := by
  have hRel0 := hRel
  obtain ⟨n, T, hQ, hKp, ⟨ht, hi, hT⟩, rfl, rfl, rfl, hb0, hb1, hZ, hnn⟩ := hRel
  have hQ1 := hQ
  obtain ⟨h8, hm1, hN, hd, hnu, hvv, hok⟩ := hQ1
  refine v_aload_n hC rfl dL_law_357 (q := 358) rfl ?_
  refine v_aload_n hC rfl dL_law_358 (q := 359) rfl ?_
  refine v_iload_n hC rfl dL_law_359 (q := 360) rfl ?_
  refine v_iconst hC (v := 1) rfl dL_law_360 (q := 361) rfl ?_
  refine v_iadd hC dL_law_361 (q := 362) rfl ?_
  refine v_sld hC hX (k := 6 * j + 1) (by omega) hL (n6 j 1) dL_law_362 (q := 363) rfl ?_
  refine v_Vi hC lkV_L_36 (c_X5_grind hN h8 hnu hok) rfl (by decide) (k := 0) (by decide) ch_0 rfl rfl (Nat.le_of_ble_eq_true rfl) dL_law_363 (q := 366) rfl ?_
  rintro _ _ ⟨rfl, rfl⟩
  rw [cg_grind h8 hvv]
  refine v_aload_n hC rfl dL_law_366 (q := 367) rfl ?_
  refine v_aload_n hC rfl dL_law_367 (q := 368) rfl ?_
  refine v_iload_n hC rfl dL_law_368 (q := 369) rfl ?_
  refine v_iconst hC (v := 1) rfl dL_law_369 (q := 370) rfl ?_
  refine v_iadd hC dL_law_370 (q := 371) rfl ?_
  refine v_sld hC hX (k := 6 * j + 1) (by omega) hL (n6 j 1) dL_law_371 (q := 372) rfl ?_
  refine v_Vi hC lkV_L_39 (c_X6_grind hm1 h8) rfl (by decide) (k := 47) (by decide) hp_47 rfl rfl (Nat.le_of_ble_eq_true rfl) dL_law_372 (q := 375) rfl ?_
  rintro _ _ ⟨rfl, rfl⟩
  refine v_icmp_eq hC dL_law_375 (t := 1241) rfl (q := 378) rfl (fun _ => ?_) (fun h => absurd (rfl) h)
  exact nx _ _ _ _ _ _ _ _ _ _ _ _ _ _ (rel_fn ⟨n, T, qR_grind hQ, hKp, ⟨ht, hi, hT⟩, rfl, rfl, rfl, hb0, hb1, hZ, hnn⟩)

set_option maxHeartbeats 4000000 in
set_option maxRecDepth 100000 in
theorem law_lend {l : Launch} {X : Gx} {C : Cx} {b L j : Nat} {xs : Nat → Int32} (hC : cOK X room_1 C cL_law RL) (hX : cX X C b L xs) (hL : L ≤ 3072) (hj : 6 * (j + 1) ≤ L) (nx : NX l X C b j 1241) {i m : Nat → Int32} {r : Nat → Nat → Int32} {c : Nat → Int64} {q nu : Nat → Nat → Int32} {vc : Nat → Nat → Nat → Int32} {sb : Nat → Nat → Int32} {tp by_ : Nat → Int32} {sh : Nat → Nat → Int32} {nn : Nat → Nat → Int64} {fo : Nat → Int32} {kp : Int32} (hRel : Rel i m r c q nu vc tp by_ sh nn fo kp) : V l X room_1 C (ch X (i, m, r, c) q nu vc sb tp by_ sh nn fo kp) 380 [some (.ref b), some (.ref (ga X 0)), some (.ref (ga X 47)), some (.int (nI (6 * j)))] [] := by
  have hRel0 := hRel
  obtain ⟨n, T, hQ, hKp, ⟨ht, hi, hT⟩, rfl, rfl, rfl, hb0, hb1, hZ, hnn⟩ := hRel
  have hQ1 := hQ
  obtain ⟨h8, hm1, hN, hd, hnu, hvv, hok⟩ := hQ1
  refine v_aload_n hC rfl dL_law_380 (q := 381) rfl ?_
  refine v_aload_n hC rfl dL_law_381 (q := 382) rfl ?_
  refine v_iload_n hC rfl dL_law_382 (q := 383) rfl ?_
  refine v_iconst hC (v := 1) rfl dL_law_383 (q := 384) rfl ?_
  refine v_iadd hC dL_law_384 (q := 385) rfl ?_
  refine v_sld hC hX (k := 6 * j + 1) (by omega) hL (n6 j 1) dL_law_385 (q := 386) rfl ?_
  refine v_aload_n hC rfl dL_law_386 (q := 387) rfl ?_
  refine v_iload_n hC rfl dL_law_387 (q := 388) rfl ?_
  refine v_iconst hC (v := 2) rfl dL_law_388 (q := 389) rfl ?_
  refine v_iadd hC dL_law_389 (q := 390) rfl ?_
  refine v_sld hC hX (k := 6 * j + 2) (by omega) hL (n6 j 2) dL_law_390 (q := 391) rfl ?_
  refine v_Vi hC lkV_L_40 (c_X5_lend hN h8 hnu hok) rfl (by decide) (k := 0) (by decide) ch_0 rfl rfl (Nat.le_of_ble_eq_true rfl) dL_law_391 (q := 394) rfl ?_
  rintro _ _ ⟨rfl, T2, rfl⟩
  refine v_aload_n hC rfl dL_law_394 (q := 395) rfl ?_
  refine v_aload_n hC rfl dL_law_395 (q := 396) rfl ?_
  refine v_iload_n hC rfl dL_law_396 (q := 397) rfl ?_
  refine v_iconst hC (v := 1) rfl dL_law_397 (q := 398) rfl ?_
  refine v_iadd hC dL_law_398 (q := 399) rfl ?_
  refine v_sld hC hX (k := 6 * j + 1) (by omega) hL (n6 j 1) dL_law_399 (q := 400) rfl ?_
  refine v_aload_n hC rfl dL_law_400 (q := 401) rfl ?_
  refine v_iload_n hC rfl dL_law_401 (q := 402) rfl ?_
  refine v_iconst hC (v := 2) rfl dL_law_402 (q := 403) rfl ?_
  refine v_iadd hC dL_law_403 (q := 404) rfl ?_
  refine v_sld hC hX (k := 6 * j + 2) (by omega) hL (n6 j 2) dL_law_404 (q := 405) rfl ?_
  refine v_Vi hC lkV_L_43 (c_X6_lend hm1 h8) rfl (by decide) (k := 47) (by decide) hp_47 rfl rfl (Nat.le_of_ble_eq_true rfl) dL_law_405 (q := 408) rfl ?_
  rintro _ _ ⟨rfl, rfl⟩
  refine v_icmp_eq hC dL_law_408 (t := 1241) rfl (q := 411) rfl (fun _ => ?_) (fun h => absurd (rfl) h)
  exact nx _ _ _ _ _ _ _ _ _ _ _ _ _ _ (rel_fn ⟨n, T, qR_lend hQ, hKp, ⟨ht, hi, hT⟩, rfl, rfl, rfl, hb0, hb1, hZ, hnn⟩)

set_option maxHeartbeats 4000000 in
set_option maxRecDepth 100000 in
theorem law_looks {l : Launch} {X : Gx} {C : Cx} {b L j : Nat} {xs : Nat → Int32} (hC : cOK X room_1 C cL_law RL) (hX : cX X C b L xs) (hL : L ≤ 3072) (hj : 6 * (j + 1) ≤ L) (nx : NX l X C b j 1241) {i m : Nat → Int32} {r : Nat → Nat → Int32} {c : Nat → Int64} {q nu : Nat → Nat → Int32} {vc : Nat → Nat → Nat → Int32} {sb : Nat → Nat → Int32} {tp by_ : Nat → Int32} {sh : Nat → Nat → Int32} {nn : Nat → Nat → Int64} {fo : Nat → Int32} {kp : Int32} (hRel : Rel i m r c q nu vc tp by_ sh nn fo kp) : V l X room_1 C (ch X (i, m, r, c) q nu vc sb tp by_ sh nn fo kp) 413 [some (.ref b), some (.ref (ga X 0)), some (.ref (ga X 47)), some (.int (nI (6 * j)))] [] := by
  have hRel0 := hRel
  obtain ⟨n, T, hQ, hKp, ⟨ht, hi, hT⟩, rfl, rfl, rfl, hb0, hb1, hZ, hnn⟩ := hRel
  have hQ1 := hQ
  obtain ⟨h8, hm1, hN, hd, hnu, hvv, hok⟩ := hQ1
  refine v_aload_n hC rfl dL_law_413 (q := 414) rfl ?_
  refine v_aload_n hC rfl dL_law_414 (q := 415) rfl ?_
  refine v_iload_n hC rfl dL_law_415 (q := 416) rfl ?_
  refine v_iconst hC (v := 1) rfl dL_law_416 (q := 417) rfl ?_
  refine v_iadd hC dL_law_417 (q := 418) rfl ?_
  refine v_sld hC hX (k := 6 * j + 1) (by omega) hL (n6 j 1) dL_law_418 (q := 419) rfl ?_
  refine v_aload_n hC rfl dL_law_419 (q := 420) rfl ?_
  refine v_iload_n hC rfl dL_law_420 (q := 421) rfl ?_
  refine v_iconst hC (v := 2) rfl dL_law_421 (q := 422) rfl ?_
  refine v_iadd hC dL_law_422 (q := 423) rfl ?_
  refine v_sld hC hX (k := 6 * j + 2) (by omega) hL (n6 j 2) dL_law_423 (q := 424) rfl ?_
  refine v_Vi hC lkV_L_44 (c_X5_looks hN h8 hnu hok) rfl (by decide) (k := 0) (by decide) ch_0 rfl rfl (Nat.le_of_ble_eq_true rfl) dL_law_424 (q := 427) rfl ?_
  rintro _ _ ⟨rfl, rfl⟩
  rw [cg_looks h8 hvv]
  refine v_aload_n hC rfl dL_law_427 (q := 428) rfl ?_
  refine v_aload_n hC rfl dL_law_428 (q := 429) rfl ?_
  refine v_iload_n hC rfl dL_law_429 (q := 430) rfl ?_
  refine v_iconst hC (v := 1) rfl dL_law_430 (q := 431) rfl ?_
  refine v_iadd hC dL_law_431 (q := 432) rfl ?_
  refine v_sld hC hX (k := 6 * j + 1) (by omega) hL (n6 j 1) dL_law_432 (q := 433) rfl ?_
  refine v_aload_n hC rfl dL_law_433 (q := 434) rfl ?_
  refine v_iload_n hC rfl dL_law_434 (q := 435) rfl ?_
  refine v_iconst hC (v := 2) rfl dL_law_435 (q := 436) rfl ?_
  refine v_iadd hC dL_law_436 (q := 437) rfl ?_
  refine v_sld hC hX (k := 6 * j + 2) (by omega) hL (n6 j 2) dL_law_437 (q := 438) rfl ?_
  refine v_Vi hC lkV_L_47 (c_X6_looks hm1 h8) rfl (by decide) (k := 47) (by decide) hp_47 rfl rfl (Nat.le_of_ble_eq_true rfl) dL_law_438 (q := 441) rfl ?_
  rintro _ _ ⟨rfl, rfl⟩
  refine v_icmp_eq hC dL_law_441 (t := 1241) rfl (q := 444) rfl (fun _ => ?_) (fun h => absurd (rfl) h)
  exact nx _ _ _ _ _ _ _ _ _ _ _ _ _ _ (rel_fn hRel0)

set_option maxHeartbeats 4000000 in
set_option maxRecDepth 100000 in
theorem law_sees {l : Launch} {X : Gx} {C : Cx} {b L j : Nat} {xs : Nat → Int32} (hC : cOK X room_1 C cL_law RL) (hX : cX X C b L xs) (hL : L ≤ 3072) (hj : 6 * (j + 1) ≤ L) (nx : NX l X C b j 1241) {i m : Nat → Int32} {r : Nat → Nat → Int32} {c : Nat → Int64} {q nu : Nat → Nat → Int32} {vc : Nat → Nat → Nat → Int32} {sb : Nat → Nat → Int32} {tp by_ : Nat → Int32} {sh : Nat → Nat → Int32} {nn : Nat → Nat → Int64} {fo : Nat → Int32} {kp : Int32} (hRel : Rel i m r c q nu vc tp by_ sh nn fo kp) : V l X room_1 C (ch X (i, m, r, c) q nu vc sb tp by_ sh nn fo kp) 446 [some (.ref b), some (.ref (ga X 0)), some (.ref (ga X 47)), some (.int (nI (6 * j)))] [] := by
  have hRel0 := hRel
  obtain ⟨n, T, hQ, hKp, ⟨ht, hi, hT⟩, rfl, rfl, rfl, hb0, hb1, hZ, hnn⟩ := hRel
  have hQ1 := hQ
  obtain ⟨h8, hm1, hN, hd, hnu, hvv, hok⟩ := hQ1
  refine v_aload_n hC rfl dL_law_446 (q := 447) rfl ?_
  refine v_aload_n hC rfl dL_law_447 (q := 448) rfl ?_
  refine v_iload_n hC rfl dL_law_448 (q := 449) rfl ?_
  refine v_iconst hC (v := 1) rfl dL_law_449 (q := 450) rfl ?_
  refine v_iadd hC dL_law_450 (q := 451) rfl ?_
  refine v_sld hC hX (k := 6 * j + 1) (by omega) hL (n6 j 1) dL_law_451 (q := 452) rfl ?_
  refine v_aload_n hC rfl dL_law_452 (q := 453) rfl ?_
  refine v_iload_n hC rfl dL_law_453 (q := 454) rfl ?_
  refine v_iconst hC (v := 2) rfl dL_law_454 (q := 455) rfl ?_
  refine v_iadd hC dL_law_455 (q := 456) rfl ?_
  refine v_sld hC hX (k := 6 * j + 2) (by omega) hL (n6 j 2) dL_law_456 (q := 457) rfl ?_
  refine v_Vi hC lkV_L_48 (c_X5_sees hN h8 hnu hok) rfl (by decide) (k := 0) (by decide) ch_0 rfl rfl (Nat.le_of_ble_eq_true rfl) dL_law_457 (q := 460) rfl ?_
  rintro _ _ ⟨rfl, rfl⟩
  rw [cg_sees h8 hvv]
  refine v_aload_n hC rfl dL_law_460 (q := 461) rfl ?_
  refine v_aload_n hC rfl dL_law_461 (q := 462) rfl ?_
  refine v_iload_n hC rfl dL_law_462 (q := 463) rfl ?_
  refine v_iconst hC (v := 1) rfl dL_law_463 (q := 464) rfl ?_
  refine v_iadd hC dL_law_464 (q := 465) rfl ?_
  refine v_sld hC hX (k := 6 * j + 1) (by omega) hL (n6 j 1) dL_law_465 (q := 466) rfl ?_
  refine v_aload_n hC rfl dL_law_466 (q := 467) rfl ?_
  refine v_iload_n hC rfl dL_law_467 (q := 468) rfl ?_
  refine v_iconst hC (v := 2) rfl dL_law_468 (q := 469) rfl ?_
  refine v_iadd hC dL_law_469 (q := 470) rfl ?_
  refine v_sld hC hX (k := 6 * j + 2) (by omega) hL (n6 j 2) dL_law_470 (q := 471) rfl ?_
  refine v_Vi hC lkV_L_51 (c_X6_sees hm1 h8) rfl (by decide) (k := 47) (by decide) hp_47 rfl rfl (Nat.le_of_ble_eq_true rfl) dL_law_471 (q := 474) rfl ?_
  rintro _ _ ⟨rfl, rfl⟩
  refine v_icmp_eq hC dL_law_474 (t := 1241) rfl (q := 477) rfl (fun _ => ?_) (fun h => absurd (rfl) h)
  exact nx _ _ _ _ _ _ _ _ _ _ _ _ _ _ (rel_fn hRel0)

set_option maxHeartbeats 4000000 in
set_option maxRecDepth 100000 in
theorem law_days {l : Launch} {X : Gx} {C : Cx} {b L j : Nat} {xs : Nat → Int32} (hC : cOK X room_1 C cL_law RL) (hX : cX X C b L xs) (hL : L ≤ 3072) (hj : 6 * (j + 1) ≤ L) (nx : NX l X C b j 1241) {i m : Nat → Int32} {r : Nat → Nat → Int32} {c : Nat → Int64} {q nu : Nat → Nat → Int32} {vc : Nat → Nat → Nat → Int32} {sb : Nat → Nat → Int32} {tp by_ : Nat → Int32} {sh : Nat → Nat → Int32} {nn : Nat → Nat → Int64} {fo : Nat → Int32} {kp : Int32} (hRel : Rel i m r c q nu vc tp by_ sh nn fo kp) : V l X room_1 C (ch X (i, m, r, c) q nu vc sb tp by_ sh nn fo kp) 479 [some (.ref b), some (.ref (ga X 0)), some (.ref (ga X 47)), some (.int (nI (6 * j)))] [] := by
  have hRel0 := hRel
  obtain ⟨n, T, hQ, hKp, ⟨ht, hi, hT⟩, rfl, rfl, rfl, hb0, hb1, hZ, hnn⟩ := hRel
  have hQ1 := hQ
  obtain ⟨h8, hm1, hN, hd, hnu, hvv, hok⟩ := hQ1
  by_cases hc : 1 ≤ (xs (6 * j + 1)) ∧ (xs (6 * j + 1)) ≤ 100
  · by_cases hc2 : m 0 + (xs (6 * j + 1)) ≤ 9999
    · obtain ⟨K, hK1, hK, hxK⟩ := w_of' (a := 1) (N := 100) (by decide) (by decide) hc.1 hc.2
      have hcl : ((xs (6 * j + 1))).toNatClampNeg = K := by rw [hxK]; exact nI_clamp (by omega)
      have hcq : q 0 0 + (xs (6 * j + 1)) ≤ 9999 := by rw [hd]; exact hc2
      have hMd : M_days n m (xs (6 * j + 1)) = goN n m K := by rw [M_days, if_pos hc, if_pos hc2, hcl]
      have hS1 : S_days n (dyV (vc 0) n K 0) (q 0 0) (xs (6 * j + 1)) = .inr (sumF (dyV (vc 0) n K 0) 1 n) := by rw [S_days, if_pos hc, if_pos hcq]
      have hS2 : S_days n (pv (goN n m K)) (m 0) (xs (6 * j + 1)) = .inr (sumF (dyV (vc 0) n K 0) 1 n) := by rw [S_days, if_pos hc, if_pos hc2, sumF_congr (g' := dyV (vc 0) n K 0) n (fun p hp => ((qR_days hQ K).2.2.2.2.2.1 p hp).symm)]
      refine v_aload_n hC rfl dL_law_479 (q := 480) rfl ?_
      refine v_aload_n hC rfl dL_law_480 (q := 481) rfl ?_
      refine v_iload_n hC rfl dL_law_481 (q := 482) rfl ?_
      refine v_iconst hC (v := 1) rfl dL_law_482 (q := 483) rfl ?_
      refine v_iadd hC dL_law_483 (q := 484) rfl ?_
      refine v_sld hC hX (k := 6 * j + 1) (by omega) hL (n6 j 1) dL_law_484 (q := 485) rfl ?_
      refine v_Vi hC lkV_L_52 (c_X5_days hN h8 hnu hok) rfl (by decide) (k := 0) (by decide) ch_0 rfl rfl (Nat.le_of_ble_eq_true rfl) dL_law_485 (q := 488) rfl ?_
      rintro _ _ ⟨rfl, rfl⟩
      rw [if_pos hc, if_pos hcq, hcl, hS1]
      refine v_aload_n hC rfl dL_law_488 (q := 489) rfl ?_
      refine v_aload_n hC rfl dL_law_489 (q := 490) rfl ?_
      refine v_iload_n hC rfl dL_law_490 (q := 491) rfl ?_
      refine v_iconst hC (v := 1) rfl dL_law_491 (q := 492) rfl ?_
      refine v_iadd hC dL_law_492 (q := 493) rfl ?_
      refine v_sld hC hX (k := 6 * j + 1) (by omega) hL (n6 j 1) dL_law_493 (q := 494) rfl ?_
      refine v_Vi hC lkV_L_55 (c_X6_days hm1 h8) rfl (by decide) (k := 47) (by decide) hp_47 rfl rfl (Nat.le_of_ble_eq_true rfl) dL_law_494 (q := 497) rfl ?_
      rintro _ _ ⟨rfl, rfl⟩
      rw [hMd, hS2]
      refine v_icmp_eq hC dL_law_497 (t := 1241) rfl (q := 500) rfl (fun _ => ?_) (fun h => absurd (rfl) h)
      exact nx _ _ _ _ _ _ _ _ _ _ _ _ _ _ (⟨n, T, by rw [hxK]; exact qR_days hQ K, hKp, ⟨ht, hi, hT⟩, rfl, rfl, rfl, hb0, hb1, hZ, hnn⟩)
    · have hcq : ¬ q 0 0 + (xs (6 * j + 1)) ≤ 9999 := by rw [hd]; exact hc2
      have hMd : M_days n m (xs (6 * j + 1)) = m := by rw [M_days, if_pos hc, if_neg hc2]
      refine v_aload_n hC rfl dL_law_479 (q := 480) rfl ?_
      refine v_aload_n hC rfl dL_law_480 (q := 481) rfl ?_
      refine v_iload_n hC rfl dL_law_481 (q := 482) rfl ?_
      refine v_iconst hC (v := 1) rfl dL_law_482 (q := 483) rfl ?_
      refine v_iadd hC dL_law_483 (q := 484) rfl ?_
      refine v_sld hC hX (k := 6 * j + 1) (by omega) hL (n6 j 1) dL_law_484 (q := 485) rfl ?_
      refine v_Vi hC lkV_L_52 (c_X5_days hN h8 hnu hok) rfl (by decide) (k := 0) (by decide) ch_0 rfl rfl (Nat.le_of_ble_eq_true rfl) dL_law_485 (q := 488) rfl ?_
      rintro _ _ ⟨rfl, rfl⟩
      rw [if_pos hc, if_neg hcq, show ∀ g, S_days n g (q 0 0) (xs (6 * j + 1)) = .inl 4 from fun g => by rw [S_days, if_pos hc, if_neg hcq]]
      refine v_aload_n hC rfl dL_law_488 (q := 489) rfl ?_
      refine v_aload_n hC rfl dL_law_489 (q := 490) rfl ?_
      refine v_iload_n hC rfl dL_law_490 (q := 491) rfl ?_
      refine v_iconst hC (v := 1) rfl dL_law_491 (q := 492) rfl ?_
      refine v_iadd hC dL_law_492 (q := 493) rfl ?_
      refine v_sld hC hX (k := 6 * j + 1) (by omega) hL (n6 j 1) dL_law_493 (q := 494) rfl ?_
      refine v_Vi hC lkV_L_55 (c_X6_days hm1 h8) rfl (by decide) (k := 47) (by decide) hp_47 rfl rfl (Nat.le_of_ble_eq_true rfl) dL_law_494 (q := 497) rfl ?_
      rintro _ _ ⟨rfl, rfl⟩
      rw [hMd, show ∀ g, S_days n g (m 0) (xs (6 * j + 1)) = .inl 4 from fun g => by rw [S_days, if_pos hc, if_neg hc2]]
      refine v_icmp_eq hC dL_law_497 (t := 1241) rfl (q := 500) rfl (fun _ => ?_) (fun h => absurd (rfl) h)
      exact nx _ _ _ _ _ _ _ _ _ _ _ _ _ _ (rel_fn (x := .inl 4) hRel0)
  · have hMd : M_days n m (xs (6 * j + 1)) = m := by rw [M_days, if_neg hc]
    refine v_aload_n hC rfl dL_law_479 (q := 480) rfl ?_
    refine v_aload_n hC rfl dL_law_480 (q := 481) rfl ?_
    refine v_iload_n hC rfl dL_law_481 (q := 482) rfl ?_
    refine v_iconst hC (v := 1) rfl dL_law_482 (q := 483) rfl ?_
    refine v_iadd hC dL_law_483 (q := 484) rfl ?_
    refine v_sld hC hX (k := 6 * j + 1) (by omega) hL (n6 j 1) dL_law_484 (q := 485) rfl ?_
    refine v_Vi hC lkV_L_52 (c_X5_days hN h8 hnu hok) rfl (by decide) (k := 0) (by decide) ch_0 rfl rfl (Nat.le_of_ble_eq_true rfl) dL_law_485 (q := 488) rfl ?_
    rintro _ _ ⟨rfl, rfl⟩
    rw [if_neg hc, show ∀ g, S_days n g (q 0 0) (xs (6 * j + 1)) = .inl 0 from fun g => by rw [S_days, if_neg hc]]
    refine v_aload_n hC rfl dL_law_488 (q := 489) rfl ?_
    refine v_aload_n hC rfl dL_law_489 (q := 490) rfl ?_
    refine v_iload_n hC rfl dL_law_490 (q := 491) rfl ?_
    refine v_iconst hC (v := 1) rfl dL_law_491 (q := 492) rfl ?_
    refine v_iadd hC dL_law_492 (q := 493) rfl ?_
    refine v_sld hC hX (k := 6 * j + 1) (by omega) hL (n6 j 1) dL_law_493 (q := 494) rfl ?_
    refine v_Vi hC lkV_L_55 (c_X6_days hm1 h8) rfl (by decide) (k := 47) (by decide) hp_47 rfl rfl (Nat.le_of_ble_eq_true rfl) dL_law_494 (q := 497) rfl ?_
    rintro _ _ ⟨rfl, rfl⟩
    rw [hMd, show ∀ g, S_days n g (m 0) (xs (6 * j + 1)) = .inl 0 from fun g => by rw [S_days, if_neg hc]]
    refine v_icmp_eq hC dL_law_497 (t := 1241) rfl (q := 500) rfl (fun _ => ?_) (fun h => absurd (rfl) h)
    exact nx _ _ _ _ _ _ _ _ _ _ _ _ _ _ (rel_fn (x := .inl 0) hRel0)

set_option maxHeartbeats 4000000 in
set_option maxRecDepth 100000 in
theorem law_now {l : Launch} {X : Gx} {C : Cx} {b L j : Nat} {xs : Nat → Int32} (hC : cOK X room_1 C cL_law RL) (hX : cX X C b L xs) (hL : L ≤ 3072) (hj : 6 * (j + 1) ≤ L) (nx : NX l X C b j 1241) {i m : Nat → Int32} {r : Nat → Nat → Int32} {c : Nat → Int64} {q nu : Nat → Nat → Int32} {vc : Nat → Nat → Nat → Int32} {sb : Nat → Nat → Int32} {tp by_ : Nat → Int32} {sh : Nat → Nat → Int32} {nn : Nat → Nat → Int64} {fo : Nat → Int32} {kp : Int32} (hRel : Rel i m r c q nu vc tp by_ sh nn fo kp) : V l X room_1 C (ch X (i, m, r, c) q nu vc sb tp by_ sh nn fo kp) 502 [some (.ref b), some (.ref (ga X 0)), some (.ref (ga X 47)), some (.int (nI (6 * j)))] [] := by
  have hRel0 := hRel
  obtain ⟨n, T, hQ, hKp, ⟨ht, hi, hT⟩, rfl, rfl, rfl, hb0, hb1, hZ, hnn⟩ := hRel
  have hQ1 := hQ
  obtain ⟨h8, hm1, hN, hd, hnu, hvv, hok⟩ := hQ1
  refine v_aload_n hC rfl dL_law_502 (q := 503) rfl ?_
  refine v_aload_n hC rfl dL_law_503 (q := 504) rfl ?_
  refine v_iload_n hC rfl dL_law_504 (q := 505) rfl ?_
  refine v_iconst hC (v := 1) rfl dL_law_505 (q := 506) rfl ?_
  refine v_iadd hC dL_law_506 (q := 507) rfl ?_
  refine v_sld hC hX (k := 6 * j + 1) (by omega) hL (n6 j 1) dL_law_507 (q := 508) rfl ?_
  refine v_Vi hC lkV_L_56 (c_X5_now hN h8 hnu hok) rfl (by decide) (k := 0) (by decide) ch_0 rfl rfl (Nat.le_of_ble_eq_true rfl) dL_law_508 (q := 511) rfl ?_
  rintro _ _ ⟨rfl, rfl⟩
  rw [hd, cg_now h8 hvv]
  refine v_aload_n hC rfl dL_law_511 (q := 512) rfl ?_
  refine v_aload_n hC rfl dL_law_512 (q := 513) rfl ?_
  refine v_iload_n hC rfl dL_law_513 (q := 514) rfl ?_
  refine v_iconst hC (v := 1) rfl dL_law_514 (q := 515) rfl ?_
  refine v_iadd hC dL_law_515 (q := 516) rfl ?_
  refine v_sld hC hX (k := 6 * j + 1) (by omega) hL (n6 j 1) dL_law_516 (q := 517) rfl ?_
  refine v_Vi hC lkV_L_59 (c_X6_now hm1 h8) rfl (by decide) (k := 47) (by decide) hp_47 rfl rfl (Nat.le_of_ble_eq_true rfl) dL_law_517 (q := 520) rfl ?_
  rintro _ _ ⟨rfl, rfl⟩
  refine v_icmp_eq hC dL_law_520 (t := 1241) rfl (q := 523) rfl (fun _ => ?_) (fun h => absurd (rfl) h)
  exact nx _ _ _ _ _ _ _ _ _ _ _ _ _ _ (rel_fn hRel0)

set_option maxHeartbeats 4000000 in
set_option maxRecDepth 100000 in
theorem law_on {l : Launch} {X : Gx} {C : Cx} {b L j : Nat} {xs : Nat → Int32} (hC : cOK X room_1 C cL_law RL) (hX : cX X C b L xs) (hL : L ≤ 3072) (hj : 6 * (j + 1) ≤ L) (nx : NX l X C b j 1241) {i m : Nat → Int32} {r : Nat → Nat → Int32} {c : Nat → Int64} {q nu : Nat → Nat → Int32} {vc : Nat → Nat → Nat → Int32} {sb : Nat → Nat → Int32} {tp by_ : Nat → Int32} {sh : Nat → Nat → Int32} {nn : Nat → Nat → Int64} {fo : Nat → Int32} {kp : Int32} (hRel : Rel i m r c q nu vc tp by_ sh nn fo kp) : V l X room_1 C (ch X (i, m, r, c) q nu vc sb tp by_ sh nn fo kp) 525 [some (.ref b), some (.ref (ga X 0)), some (.ref (ga X 47)), some (.int (nI (6 * j)))] [] := by
  have hRel0 := hRel
  obtain ⟨n, T, hQ, hKp, ⟨ht, hi, hT⟩, rfl, rfl, rfl, hb0, hb1, hZ, hnn⟩ := hRel
  have hQ1 := hQ
  obtain ⟨h8, hm1, hN, hd, hnu, hvv, hok⟩ := hQ1
  refine v_aload_n hC rfl dL_law_525 (q := 526) rfl ?_
  refine v_aload_n hC rfl dL_law_526 (q := 527) rfl ?_
  refine v_iload_n hC rfl dL_law_527 (q := 528) rfl ?_
  refine v_iconst hC (v := 1) rfl dL_law_528 (q := 529) rfl ?_
  refine v_iadd hC dL_law_529 (q := 530) rfl ?_
  refine v_sld hC hX (k := 6 * j + 1) (by omega) hL (n6 j 1) dL_law_530 (q := 531) rfl ?_
  refine v_aload_n hC rfl dL_law_531 (q := 532) rfl ?_
  refine v_iload_n hC rfl dL_law_532 (q := 533) rfl ?_
  refine v_iconst hC (v := 2) rfl dL_law_533 (q := 534) rfl ?_
  refine v_iadd hC dL_law_534 (q := 535) rfl ?_
  refine v_sld hC hX (k := 6 * j + 2) (by omega) hL (n6 j 2) dL_law_535 (q := 536) rfl ?_
  refine v_aload_n hC rfl dL_law_536 (q := 537) rfl ?_
  refine v_iload_n hC rfl dL_law_537 (q := 538) rfl ?_
  refine v_iconst hC (v := 3) rfl dL_law_538 (q := 539) rfl ?_
  refine v_iadd hC dL_law_539 (q := 540) rfl ?_
  refine v_sld hC hX (k := 6 * j + 3) (by omega) hL (n6 j 3) dL_law_540 (q := 541) rfl ?_
  refine v_Vi hC lkV_L_60 (c_X5_on hN h8 hnu hok) rfl (by decide) (k := 0) (by decide) ch_0 rfl rfl (Nat.le_of_ble_eq_true rfl) dL_law_541 (q := 544) rfl ?_
  rintro _ _ ⟨rfl, q2, n2, v2, sb2, rfl⟩
  rw [cg_on h8 hvv]
  refine v_aload_n hC rfl dL_law_544 (q := 545) rfl ?_
  refine v_aload_n hC rfl dL_law_545 (q := 546) rfl ?_
  refine v_iload_n hC rfl dL_law_546 (q := 547) rfl ?_
  refine v_iconst hC (v := 1) rfl dL_law_547 (q := 548) rfl ?_
  refine v_iadd hC dL_law_548 (q := 549) rfl ?_
  refine v_sld hC hX (k := 6 * j + 1) (by omega) hL (n6 j 1) dL_law_549 (q := 550) rfl ?_
  refine v_aload_n hC rfl dL_law_550 (q := 551) rfl ?_
  refine v_iload_n hC rfl dL_law_551 (q := 552) rfl ?_
  refine v_iconst hC (v := 2) rfl dL_law_552 (q := 553) rfl ?_
  refine v_iadd hC dL_law_553 (q := 554) rfl ?_
  refine v_sld hC hX (k := 6 * j + 2) (by omega) hL (n6 j 2) dL_law_554 (q := 555) rfl ?_
  refine v_aload_n hC rfl dL_law_555 (q := 556) rfl ?_
  refine v_iload_n hC rfl dL_law_556 (q := 557) rfl ?_
  refine v_iconst hC (v := 3) rfl dL_law_557 (q := 558) rfl ?_
  refine v_iadd hC dL_law_558 (q := 559) rfl ?_
  refine v_sld hC hX (k := 6 * j + 3) (by omega) hL (n6 j 3) dL_law_559 (q := 560) rfl ?_
  refine v_Vi hC lkV_L_63 (c_X6_on hm1 h8) rfl (by decide) (k := 47) (by decide) hp_47 rfl rfl (Nat.le_of_ble_eq_true rfl) dL_law_560 (q := 563) rfl ?_
  rintro _ _ ⟨rfl, W, rfl⟩
  refine v_icmp_eq hC dL_law_563 (t := 1241) rfl (q := 566) rfl (fun _ => ?_) (fun h => absurd (rfl) h)
  exact nx _ _ _ _ _ _ _ _ _ _ _ _ _ _ (rel_fn (rel_j hRel0))

set_option maxHeartbeats 4000000 in
set_option maxRecDepth 100000 in
theorem law_then {l : Launch} {X : Gx} {C : Cx} {b L j : Nat} {xs : Nat → Int32} (hC : cOK X room_1 C cL_law RL) (hX : cX X C b L xs) (hL : L ≤ 3072) (hj : 6 * (j + 1) ≤ L) (nx : NX l X C b j 1241) {i m : Nat → Int32} {r : Nat → Nat → Int32} {c : Nat → Int64} {q nu : Nat → Nat → Int32} {vc : Nat → Nat → Nat → Int32} {sb : Nat → Nat → Int32} {tp by_ : Nat → Int32} {sh : Nat → Nat → Int32} {nn : Nat → Nat → Int64} {fo : Nat → Int32} {kp : Int32} (hRel : Rel i m r c q nu vc tp by_ sh nn fo kp) : V l X room_1 C (ch X (i, m, r, c) q nu vc sb tp by_ sh nn fo kp) 568 [some (.ref b), some (.ref (ga X 0)), some (.ref (ga X 47)), some (.int (nI (6 * j)))] [] := by
  have hRel0 := hRel
  obtain ⟨n, T, hQ, hKp, ⟨ht, hi, hT⟩, rfl, rfl, rfl, hb0, hb1, hZ, hnn⟩ := hRel
  have hQ1 := hQ
  obtain ⟨h8, hm1, hN, hd, hnu, hvv, hok⟩ := hQ1
  refine v_aload_n hC rfl dL_law_568 (q := 569) rfl ?_
  refine v_aload_n hC rfl dL_law_569 (q := 570) rfl ?_
  refine v_iload_n hC rfl dL_law_570 (q := 571) rfl ?_
  refine v_iconst hC (v := 1) rfl dL_law_571 (q := 572) rfl ?_
  refine v_iadd hC dL_law_572 (q := 573) rfl ?_
  refine v_sld hC hX (k := 6 * j + 1) (by omega) hL (n6 j 1) dL_law_573 (q := 574) rfl ?_
  refine v_aload_n hC rfl dL_law_574 (q := 575) rfl ?_
  refine v_iload_n hC rfl dL_law_575 (q := 576) rfl ?_
  refine v_iconst hC (v := 2) rfl dL_law_576 (q := 577) rfl ?_
  refine v_iadd hC dL_law_577 (q := 578) rfl ?_
  refine v_sld hC hX (k := 6 * j + 2) (by omega) hL (n6 j 2) dL_law_578 (q := 579) rfl ?_
  refine v_aload_n hC rfl dL_law_579 (q := 580) rfl ?_
  refine v_iload_n hC rfl dL_law_580 (q := 581) rfl ?_
  refine v_iconst hC (v := 3) rfl dL_law_581 (q := 582) rfl ?_
  refine v_iadd hC dL_law_582 (q := 583) rfl ?_
  refine v_sld hC hX (k := 6 * j + 3) (by omega) hL (n6 j 3) dL_law_583 (q := 584) rfl ?_
  refine v_Vi hC lkV_L_64 (c_X5_then hN h8 hnu hok) rfl (by decide) (k := 0) (by decide) ch_0 rfl rfl (Nat.le_of_ble_eq_true rfl) dL_law_584 (q := 587) rfl ?_
  rintro _ _ ⟨rfl, q2, n2, v2, sb2, rfl⟩
  rw [cg_then h8 hvv]
  refine v_aload_n hC rfl dL_law_587 (q := 588) rfl ?_
  refine v_aload_n hC rfl dL_law_588 (q := 589) rfl ?_
  refine v_iload_n hC rfl dL_law_589 (q := 590) rfl ?_
  refine v_iconst hC (v := 1) rfl dL_law_590 (q := 591) rfl ?_
  refine v_iadd hC dL_law_591 (q := 592) rfl ?_
  refine v_sld hC hX (k := 6 * j + 1) (by omega) hL (n6 j 1) dL_law_592 (q := 593) rfl ?_
  refine v_aload_n hC rfl dL_law_593 (q := 594) rfl ?_
  refine v_iload_n hC rfl dL_law_594 (q := 595) rfl ?_
  refine v_iconst hC (v := 2) rfl dL_law_595 (q := 596) rfl ?_
  refine v_iadd hC dL_law_596 (q := 597) rfl ?_
  refine v_sld hC hX (k := 6 * j + 2) (by omega) hL (n6 j 2) dL_law_597 (q := 598) rfl ?_
  refine v_aload_n hC rfl dL_law_598 (q := 599) rfl ?_
  refine v_iload_n hC rfl dL_law_599 (q := 600) rfl ?_
  refine v_iconst hC (v := 3) rfl dL_law_600 (q := 601) rfl ?_
  refine v_iadd hC dL_law_601 (q := 602) rfl ?_
  refine v_sld hC hX (k := 6 * j + 3) (by omega) hL (n6 j 3) dL_law_602 (q := 603) rfl ?_
  refine v_Vi hC lkV_L_67 (c_X6_then hm1 h8) rfl (by decide) (k := 47) (by decide) hp_47 rfl rfl (Nat.le_of_ble_eq_true rfl) dL_law_603 (q := 606) rfl ?_
  rintro _ _ ⟨rfl, W, rfl⟩
  refine v_icmp_eq hC dL_law_606 (t := 1241) rfl (q := 609) rfl (fun _ => ?_) (fun h => absurd (rfl) h)
  exact nx _ _ _ _ _ _ _ _ _ _ _ _ _ _ (rel_fn (rel_j hRel0))

set_option maxHeartbeats 4000000 in
set_option maxRecDepth 100000 in
theorem law_forgives {l : Launch} {X : Gx} {C : Cx} {b L j : Nat} {xs : Nat → Int32} (hC : cOK X room_1 C cL_law RL) (hX : cX X C b L xs) (hL : L ≤ 3072) (hj : 6 * (j + 1) ≤ L) (nx : NX l X C b j 1241) {i m : Nat → Int32} {r : Nat → Nat → Int32} {c : Nat → Int64} {q nu : Nat → Nat → Int32} {vc : Nat → Nat → Nat → Int32} {sb : Nat → Nat → Int32} {tp by_ : Nat → Int32} {sh : Nat → Nat → Int32} {nn : Nat → Nat → Int64} {fo : Nat → Int32} {kp : Int32} (hRel : Rel i m r c q nu vc tp by_ sh nn fo kp) : V l X room_1 C (ch X (i, m, r, c) q nu vc sb tp by_ sh nn fo kp) 611 [some (.ref b), some (.ref (ga X 0)), some (.ref (ga X 47)), some (.int (nI (6 * j)))] [] := by
  have hRel0 := hRel
  obtain ⟨n, T, hQ, hKp, ⟨ht, hi, hT⟩, rfl, rfl, rfl, hb0, hb1, hZ, hnn⟩ := hRel
  have hQ1 := hQ
  obtain ⟨h8, hm1, hN, hd, hnu, hvv, hok⟩ := hQ1
  refine v_aload_n hC rfl dL_law_611 (q := 612) rfl ?_
  refine v_aload_n hC rfl dL_law_612 (q := 613) rfl ?_
  refine v_iload_n hC rfl dL_law_613 (q := 614) rfl ?_
  refine v_iconst hC (v := 1) rfl dL_law_614 (q := 615) rfl ?_
  refine v_iadd hC dL_law_615 (q := 616) rfl ?_
  refine v_sld hC hX (k := 6 * j + 1) (by omega) hL (n6 j 1) dL_law_616 (q := 617) rfl ?_
  refine v_Vi hC lkV_L_68 (c_X5_forgives hN h8 hnu hok) rfl (by decide) (k := 0) (by decide) ch_0 rfl rfl (Nat.le_of_ble_eq_true rfl) dL_law_617 (q := 620) rfl ?_
  rintro _ _ ⟨rfl, q2, n2, v2, sb2, rfl⟩
  rw [cg_forgives h8 hvv]
  refine v_aload_n hC rfl dL_law_620 (q := 621) rfl ?_
  refine v_aload_n hC rfl dL_law_621 (q := 622) rfl ?_
  refine v_iload_n hC rfl dL_law_622 (q := 623) rfl ?_
  refine v_iconst hC (v := 1) rfl dL_law_623 (q := 624) rfl ?_
  refine v_iadd hC dL_law_624 (q := 625) rfl ?_
  refine v_sld hC hX (k := 6 * j + 1) (by omega) hL (n6 j 1) dL_law_625 (q := 626) rfl ?_
  refine v_Vi hC lkV_L_71 (c_X6_forgives hm1 h8) rfl (by decide) (k := 47) (by decide) hp_47 rfl rfl (Nat.le_of_ble_eq_true rfl) dL_law_626 (q := 629) rfl ?_
  rintro _ _ ⟨rfl, W, rfl⟩
  refine v_icmp_eq hC dL_law_629 (t := 1241) rfl (q := 632) rfl (fun _ => ?_) (fun h => absurd (rfl) h)
  exact nx _ _ _ _ _ _ _ _ _ _ _ _ _ _ (rel_fn (rel_j hRel0))

set_option maxHeartbeats 4000000 in
set_option maxRecDepth 100000 in
theorem law_worn {l : Launch} {X : Gx} {C : Cx} {b L j : Nat} {xs : Nat → Int32} (hC : cOK X room_1 C cL_law RL) (hX : cX X C b L xs) (hL : L ≤ 3072) (hj : 6 * (j + 1) ≤ L) (nx : NX l X C b j 1241) {i m : Nat → Int32} {r : Nat → Nat → Int32} {c : Nat → Int64} {q nu : Nat → Nat → Int32} {vc : Nat → Nat → Nat → Int32} {sb : Nat → Nat → Int32} {tp by_ : Nat → Int32} {sh : Nat → Nat → Int32} {nn : Nat → Nat → Int64} {fo : Nat → Int32} {kp : Int32} (hRel : Rel i m r c q nu vc tp by_ sh nn fo kp) : V l X room_1 C (ch X (i, m, r, c) q nu vc sb tp by_ sh nn fo kp) 634 [some (.ref b), some (.ref (ga X 0)), some (.ref (ga X 47)), some (.int (nI (6 * j)))] [] := by
  have hRel0 := hRel
  obtain ⟨n, T, hQ, hKp, ⟨ht, hi, hT⟩, rfl, rfl, rfl, hb0, hb1, hZ, hnn⟩ := hRel
  have hQ1 := hQ
  obtain ⟨h8, hm1, hN, hd, hnu, hvv, hok⟩ := hQ1
  refine v_aload_n hC rfl dL_law_634 (q := 635) rfl ?_
  refine v_aload_n hC rfl dL_law_635 (q := 636) rfl ?_
  refine v_iload_n hC rfl dL_law_636 (q := 637) rfl ?_
  refine v_iconst hC (v := 1) rfl dL_law_637 (q := 638) rfl ?_
  refine v_iadd hC dL_law_638 (q := 639) rfl ?_
  refine v_sld hC hX (k := 6 * j + 1) (by omega) hL (n6 j 1) dL_law_639 (q := 640) rfl ?_
  refine v_Vi hC lkV_L_72 (c_X5_worn hN h8 hnu hok) rfl (by decide) (k := 0) (by decide) ch_0 rfl rfl (Nat.le_of_ble_eq_true rfl) dL_law_640 (q := 643) rfl ?_
  rintro _ _ ⟨rfl, q2, n2, v2, sb2, rfl⟩
  rw [cg_worn h8 hvv]
  refine v_aload_n hC rfl dL_law_643 (q := 644) rfl ?_
  refine v_aload_n hC rfl dL_law_644 (q := 645) rfl ?_
  refine v_iload_n hC rfl dL_law_645 (q := 646) rfl ?_
  refine v_iconst hC (v := 1) rfl dL_law_646 (q := 647) rfl ?_
  refine v_iadd hC dL_law_647 (q := 648) rfl ?_
  refine v_sld hC hX (k := 6 * j + 1) (by omega) hL (n6 j 1) dL_law_648 (q := 649) rfl ?_
  refine v_Vi hC lkV_L_75 (c_X6_worn hm1 h8) rfl (by decide) (k := 47) (by decide) hp_47 rfl rfl (Nat.le_of_ble_eq_true rfl) dL_law_649 (q := 652) rfl ?_
  rintro _ _ ⟨rfl, W, rfl⟩
  refine v_icmp_eq hC dL_law_652 (t := 1241) rfl (q := 655) rfl (fun _ => ?_) (fun h => absurd (rfl) h)
  exact nx _ _ _ _ _ _ _ _ _ _ _ _ _ _ (rel_fn (rel_j hRel0))

set_option maxHeartbeats 4000000 in
set_option maxRecDepth 100000 in
theorem law_unseen {l : Launch} {X : Gx} {C : Cx} {b L j : Nat} {xs : Nat → Int32} (hC : cOK X room_1 C cL_law RL) (hX : cX X C b L xs) (hL : L ≤ 3072) (hj : 6 * (j + 1) ≤ L) (nx : NX l X C b j 1241) {i m : Nat → Int32} {r : Nat → Nat → Int32} {c : Nat → Int64} {q nu : Nat → Nat → Int32} {vc : Nat → Nat → Nat → Int32} {sb : Nat → Nat → Int32} {tp by_ : Nat → Int32} {sh : Nat → Nat → Int32} {nn : Nat → Nat → Int64} {fo : Nat → Int32} {kp : Int32} (hRel : Rel i m r c q nu vc tp by_ sh nn fo kp) : V l X room_1 C (ch X (i, m, r, c) q nu vc sb tp by_ sh nn fo kp) 657 [some (.ref b), some (.ref (ga X 0)), some (.ref (ga X 47)), some (.int (nI (6 * j)))] [] := by
  have hRel0 := hRel
  obtain ⟨n, T, hQ, hKp, ⟨ht, hi, hT⟩, rfl, rfl, rfl, hb0, hb1, hZ, hnn⟩ := hRel
  have hQ1 := hQ
  obtain ⟨h8, hm1, hN, hd, hnu, hvv, hok⟩ := hQ1
  refine v_aload_n hC rfl dL_law_657 (q := 658) rfl ?_
  refine v_aload_n hC rfl dL_law_658 (q := 659) rfl ?_
  refine v_iload_n hC rfl dL_law_659 (q := 660) rfl ?_
  refine v_iconst hC (v := 1) rfl dL_law_660 (q := 661) rfl ?_
  refine v_iadd hC dL_law_661 (q := 662) rfl ?_
  refine v_sld hC hX (k := 6 * j + 1) (by omega) hL (n6 j 1) dL_law_662 (q := 663) rfl ?_
  refine v_Vi hC lkV_L_76 (c_X5_unseen hN h8 hnu hok) rfl (by decide) (k := 0) (by decide) ch_0 rfl rfl (Nat.le_of_ble_eq_true rfl) dL_law_663 (q := 666) rfl ?_
  rintro _ _ ⟨rfl, q2, n2, v2, sb2, rfl⟩
  rw [cg_unseen h8 hvv]
  refine v_aload_n hC rfl dL_law_666 (q := 667) rfl ?_
  refine v_aload_n hC rfl dL_law_667 (q := 668) rfl ?_
  refine v_iload_n hC rfl dL_law_668 (q := 669) rfl ?_
  refine v_iconst hC (v := 1) rfl dL_law_669 (q := 670) rfl ?_
  refine v_iadd hC dL_law_670 (q := 671) rfl ?_
  refine v_sld hC hX (k := 6 * j + 1) (by omega) hL (n6 j 1) dL_law_671 (q := 672) rfl ?_
  refine v_Vi hC lkV_L_79 (c_X6_unseen hm1 h8) rfl (by decide) (k := 47) (by decide) hp_47 rfl rfl (Nat.le_of_ble_eq_true rfl) dL_law_672 (q := 675) rfl ?_
  rintro _ _ ⟨rfl, W, rfl⟩
  refine v_icmp_eq hC dL_law_675 (t := 1241) rfl (q := 678) rfl (fun _ => ?_) (fun h => absurd (rfl) h)
  exact nx _ _ _ _ _ _ _ _ _ _ _ _ _ _ (rel_fn (rel_j hRel0))

set_option maxHeartbeats 4000000 in
set_option maxRecDepth 100000 in
theorem law_borrow {l : Launch} {X : Gx} {C : Cx} {b L j : Nat} {xs : Nat → Int32} (hC : cOK X room_1 C cL_law RL) (hX : cX X C b L xs) (hL : L ≤ 3072) (hj : 6 * (j + 1) ≤ L) (nx : NX l X C b j 1241) {i m : Nat → Int32} {r : Nat → Nat → Int32} {c : Nat → Int64} {q nu : Nat → Nat → Int32} {vc : Nat → Nat → Nat → Int32} {sb : Nat → Nat → Int32} {tp by_ : Nat → Int32} {sh : Nat → Nat → Int32} {nn : Nat → Nat → Int64} {fo : Nat → Int32} {kp : Int32} (hRel : Rel i m r c q nu vc tp by_ sh nn fo kp) : V l X room_1 C (ch X (i, m, r, c) q nu vc sb tp by_ sh nn fo kp) 680 [some (.ref b), some (.ref (ga X 0)), some (.ref (ga X 47)), some (.int (nI (6 * j)))] [] := by
  have hRel0 := hRel
  obtain ⟨n, T, hQ, hKp, ⟨ht, hi, hT⟩, rfl, rfl, rfl, hb0, hb1, hZ, hnn⟩ := hRel
  have hQ1 := hQ
  obtain ⟨h8, hm1, hN, hd, hnu, hvv, hok⟩ := hQ1
  refine v_aload_n hC rfl dL_law_680 (q := 681) rfl ?_
  refine v_aload_n hC rfl dL_law_681 (q := 682) rfl ?_
  refine v_iload_n hC rfl dL_law_682 (q := 683) rfl ?_
  refine v_iconst hC (v := 1) rfl dL_law_683 (q := 684) rfl ?_
  refine v_iadd hC dL_law_684 (q := 685) rfl ?_
  refine v_sld hC hX (k := 6 * j + 1) (by omega) hL (n6 j 1) dL_law_685 (q := 686) rfl ?_
  refine v_Vi hC lkV_L_80 (c_X5_borrow hN h8 hnu hok) rfl (by decide) (k := 0) (by decide) ch_0 rfl rfl (Nat.le_of_ble_eq_true rfl) dL_law_686 (q := 689) rfl ?_
  rintro _ _ ⟨rfl, q2, n2, v2, sb2, rfl⟩
  rw [cg_borrow h8 hvv]
  refine v_aload_n hC rfl dL_law_689 (q := 690) rfl ?_
  refine v_aload_n hC rfl dL_law_690 (q := 691) rfl ?_
  refine v_iload_n hC rfl dL_law_691 (q := 692) rfl ?_
  refine v_iconst hC (v := 1) rfl dL_law_692 (q := 693) rfl ?_
  refine v_iadd hC dL_law_693 (q := 694) rfl ?_
  refine v_sld hC hX (k := 6 * j + 1) (by omega) hL (n6 j 1) dL_law_694 (q := 695) rfl ?_
  refine v_Vi hC lkV_L_83 (c_X6_borrow hm1 h8) rfl (by decide) (k := 47) (by decide) hp_47 rfl rfl (Nat.le_of_ble_eq_true rfl) dL_law_695 (q := 698) rfl ?_
  rintro _ _ ⟨rfl, W, rfl⟩
  refine v_icmp_eq hC dL_law_698 (t := 1241) rfl (q := 701) rfl (fun _ => ?_) (fun h => absurd (rfl) h)
  exact nx _ _ _ _ _ _ _ _ _ _ _ _ _ _ (rel_fn (rel_j hRel0))

set_option maxHeartbeats 4000000 in
set_option maxRecDepth 100000 in
theorem law_kind {l : Launch} {X : Gx} {C : Cx} {b L j : Nat} {xs : Nat → Int32} (hC : cOK X room_1 C cL_law RL) (hX : cX X C b L xs) (hL : L ≤ 3072) (hj : 6 * (j + 1) ≤ L) (nx : NX l X C b j 1241) {i m : Nat → Int32} {r : Nat → Nat → Int32} {c : Nat → Int64} {q nu : Nat → Nat → Int32} {vc : Nat → Nat → Nat → Int32} {sb : Nat → Nat → Int32} {tp by_ : Nat → Int32} {sh : Nat → Nat → Int32} {nn : Nat → Nat → Int64} {fo : Nat → Int32} {kp : Int32} (hRel : Rel i m r c q nu vc tp by_ sh nn fo kp) : V l X room_1 C (ch X (i, m, r, c) q nu vc sb tp by_ sh nn fo kp) 703 [some (.ref b), some (.ref (ga X 0)), some (.ref (ga X 47)), some (.int (nI (6 * j)))] [] := by
  have hRel0 := hRel
  obtain ⟨n, T, hQ, hKp, ⟨ht, hi, hT⟩, rfl, rfl, rfl, hb0, hb1, hZ, hnn⟩ := hRel
  have hQ1 := hQ
  obtain ⟨h8, hm1, hN, hd, hnu, hvv, hok⟩ := hQ1
  refine v_aload_n hC rfl dL_law_703 (q := 704) rfl ?_
  refine v_aload_n hC rfl dL_law_704 (q := 705) rfl ?_
  refine v_iload_n hC rfl dL_law_705 (q := 706) rfl ?_
  refine v_iconst hC (v := 1) rfl dL_law_706 (q := 707) rfl ?_
  refine v_iadd hC dL_law_707 (q := 708) rfl ?_
  refine v_sld hC hX (k := 6 * j + 1) (by omega) hL (n6 j 1) dL_law_708 (q := 709) rfl ?_
  refine v_Vi hC lkV_L_84 (c_X5_kind hN h8 hnu hok) rfl (by decide) (k := 0) (by decide) ch_0 rfl rfl (Nat.le_of_ble_eq_true rfl) dL_law_709 (q := 712) rfl ?_
  rintro _ _ ⟨rfl, q2, n2, v2, sb2, rfl⟩
  rw [cg_kind h8 hvv]
  refine v_aload_n hC rfl dL_law_712 (q := 713) rfl ?_
  refine v_aload_n hC rfl dL_law_713 (q := 714) rfl ?_
  refine v_iload_n hC rfl dL_law_714 (q := 715) rfl ?_
  refine v_iconst hC (v := 1) rfl dL_law_715 (q := 716) rfl ?_
  refine v_iadd hC dL_law_716 (q := 717) rfl ?_
  refine v_sld hC hX (k := 6 * j + 1) (by omega) hL (n6 j 1) dL_law_717 (q := 718) rfl ?_
  refine v_Vi hC lkV_L_87 (c_X6_kind hm1 h8) rfl (by decide) (k := 47) (by decide) hp_47 rfl rfl (Nat.le_of_ble_eq_true rfl) dL_law_718 (q := 721) rfl ?_
  rintro _ _ ⟨rfl, W, rfl⟩
  refine v_icmp_eq hC dL_law_721 (t := 1241) rfl (q := 724) rfl (fun _ => ?_) (fun h => absurd (rfl) h)
  exact nx _ _ _ _ _ _ _ _ _ _ _ _ _ _ (rel_fn (rel_j hRel0))

set_option maxHeartbeats 4000000 in
set_option maxRecDepth 100000 in
theorem law_better {l : Launch} {X : Gx} {C : Cx} {b L j : Nat} {xs : Nat → Int32} (hC : cOK X room_1 C cL_law RL) (hX : cX X C b L xs) (hL : L ≤ 3072) (hj : 6 * (j + 1) ≤ L) (nx : NX l X C b j 1241) {i m : Nat → Int32} {r : Nat → Nat → Int32} {c : Nat → Int64} {q nu : Nat → Nat → Int32} {vc : Nat → Nat → Nat → Int32} {sb : Nat → Nat → Int32} {tp by_ : Nat → Int32} {sh : Nat → Nat → Int32} {nn : Nat → Nat → Int64} {fo : Nat → Int32} {kp : Int32} (hRel : Rel i m r c q nu vc tp by_ sh nn fo kp) : V l X room_1 C (ch X (i, m, r, c) q nu vc sb tp by_ sh nn fo kp) 726 [some (.ref b), some (.ref (ga X 0)), some (.ref (ga X 47)), some (.int (nI (6 * j)))] [] := by
  have hRel0 := hRel
  obtain ⟨n, T, hQ, hKp, ⟨ht, hi, hT⟩, rfl, rfl, rfl, hb0, hb1, hZ, hnn⟩ := hRel
  have hQ1 := hQ
  obtain ⟨h8, hm1, hN, hd, hnu, hvv, hok⟩ := hQ1
  refine v_aload_n hC rfl dL_law_726 (q := 727) rfl ?_
  refine v_aload_n hC rfl dL_law_727 (q := 728) rfl ?_
  refine v_iload_n hC rfl dL_law_728 (q := 729) rfl ?_
  refine v_iconst hC (v := 1) rfl dL_law_729 (q := 730) rfl ?_
  refine v_iadd hC dL_law_730 (q := 731) rfl ?_
  refine v_sld hC hX (k := 6 * j + 1) (by omega) hL (n6 j 1) dL_law_731 (q := 732) rfl ?_
  refine v_aload_n hC rfl dL_law_732 (q := 733) rfl ?_
  refine v_iload_n hC rfl dL_law_733 (q := 734) rfl ?_
  refine v_iconst hC (v := 2) rfl dL_law_734 (q := 735) rfl ?_
  refine v_iadd hC dL_law_735 (q := 736) rfl ?_
  refine v_sld hC hX (k := 6 * j + 2) (by omega) hL (n6 j 2) dL_law_736 (q := 737) rfl ?_
  refine v_Vi hC lkV_L_88 (c_X5_better hN h8 hnu hok) rfl (by decide) (k := 0) (by decide) ch_0 rfl rfl (Nat.le_of_ble_eq_true rfl) dL_law_737 (q := 740) rfl ?_
  rintro _ _ ⟨rfl, q2, n2, v2, sb2, rfl⟩
  rw [cg_better h8 hvv]
  refine v_aload_n hC rfl dL_law_740 (q := 741) rfl ?_
  refine v_aload_n hC rfl dL_law_741 (q := 742) rfl ?_
  refine v_iload_n hC rfl dL_law_742 (q := 743) rfl ?_
  refine v_iconst hC (v := 1) rfl dL_law_743 (q := 744) rfl ?_
  refine v_iadd hC dL_law_744 (q := 745) rfl ?_
  refine v_sld hC hX (k := 6 * j + 1) (by omega) hL (n6 j 1) dL_law_745 (q := 746) rfl ?_
  refine v_aload_n hC rfl dL_law_746 (q := 747) rfl ?_
  refine v_iload_n hC rfl dL_law_747 (q := 748) rfl ?_
  refine v_iconst hC (v := 2) rfl dL_law_748 (q := 749) rfl ?_
  refine v_iadd hC dL_law_749 (q := 750) rfl ?_
  refine v_sld hC hX (k := 6 * j + 2) (by omega) hL (n6 j 2) dL_law_750 (q := 751) rfl ?_
  refine v_Vi hC lkV_L_91 (c_X6_better hm1 h8) rfl (by decide) (k := 47) (by decide) hp_47 rfl rfl (Nat.le_of_ble_eq_true rfl) dL_law_751 (q := 754) rfl ?_
  rintro _ _ ⟨rfl, W, rfl⟩
  refine v_icmp_eq hC dL_law_754 (t := 1241) rfl (q := 757) rfl (fun _ => ?_) (fun h => absurd (rfl) h)
  exact nx _ _ _ _ _ _ _ _ _ _ _ _ _ _ (rel_fn (rel_j hRel0))

set_option maxHeartbeats 4000000 in
set_option maxRecDepth 100000 in
theorem law_most {l : Launch} {X : Gx} {C : Cx} {b L j : Nat} {xs : Nat → Int32} (hC : cOK X room_1 C cL_law RL) (hX : cX X C b L xs) (hL : L ≤ 3072) (hj : 6 * (j + 1) ≤ L) (nx : NX l X C b j 1241) {i m : Nat → Int32} {r : Nat → Nat → Int32} {c : Nat → Int64} {q nu : Nat → Nat → Int32} {vc : Nat → Nat → Nat → Int32} {sb : Nat → Nat → Int32} {tp by_ : Nat → Int32} {sh : Nat → Nat → Int32} {nn : Nat → Nat → Int64} {fo : Nat → Int32} {kp : Int32} (hRel : Rel i m r c q nu vc tp by_ sh nn fo kp) : V l X room_1 C (ch X (i, m, r, c) q nu vc sb tp by_ sh nn fo kp) 759 [some (.ref b), some (.ref (ga X 0)), some (.ref (ga X 47)), some (.int (nI (6 * j)))] [] := by
  have hRel0 := hRel
  obtain ⟨n, T, hQ, hKp, ⟨ht, hi, hT⟩, rfl, rfl, rfl, hb0, hb1, hZ, hnn⟩ := hRel
  have hQ1 := hQ
  obtain ⟨h8, hm1, hN, hd, hnu, hvv, hok⟩ := hQ1
  refine v_aload_n hC rfl dL_law_759 (q := 760) rfl ?_
  refine v_aload_n hC rfl dL_law_760 (q := 761) rfl ?_
  refine v_iload_n hC rfl dL_law_761 (q := 762) rfl ?_
  refine v_iconst hC (v := 1) rfl dL_law_762 (q := 763) rfl ?_
  refine v_iadd hC dL_law_763 (q := 764) rfl ?_
  refine v_sld hC hX (k := 6 * j + 1) (by omega) hL (n6 j 1) dL_law_764 (q := 765) rfl ?_
  refine v_aload_n hC rfl dL_law_765 (q := 766) rfl ?_
  refine v_iload_n hC rfl dL_law_766 (q := 767) rfl ?_
  refine v_iconst hC (v := 2) rfl dL_law_767 (q := 768) rfl ?_
  refine v_iadd hC dL_law_768 (q := 769) rfl ?_
  refine v_sld hC hX (k := 6 * j + 2) (by omega) hL (n6 j 2) dL_law_769 (q := 770) rfl ?_
  refine v_Vi hC lkV_L_92 (c_X5_most hN h8 hnu hok) rfl (by decide) (k := 0) (by decide) ch_0 rfl rfl (Nat.le_of_ble_eq_true rfl) dL_law_770 (q := 773) rfl ?_
  rintro _ _ ⟨rfl, q2, n2, v2, sb2, rfl⟩
  rw [cg_most h8 hvv]
  refine v_aload_n hC rfl dL_law_773 (q := 774) rfl ?_
  refine v_aload_n hC rfl dL_law_774 (q := 775) rfl ?_
  refine v_iload_n hC rfl dL_law_775 (q := 776) rfl ?_
  refine v_iconst hC (v := 1) rfl dL_law_776 (q := 777) rfl ?_
  refine v_iadd hC dL_law_777 (q := 778) rfl ?_
  refine v_sld hC hX (k := 6 * j + 1) (by omega) hL (n6 j 1) dL_law_778 (q := 779) rfl ?_
  refine v_aload_n hC rfl dL_law_779 (q := 780) rfl ?_
  refine v_iload_n hC rfl dL_law_780 (q := 781) rfl ?_
  refine v_iconst hC (v := 2) rfl dL_law_781 (q := 782) rfl ?_
  refine v_iadd hC dL_law_782 (q := 783) rfl ?_
  refine v_sld hC hX (k := 6 * j + 2) (by omega) hL (n6 j 2) dL_law_783 (q := 784) rfl ?_
  refine v_Vi hC lkV_L_95 (c_X6_most hm1 h8) rfl (by decide) (k := 47) (by decide) hp_47 rfl rfl (Nat.le_of_ble_eq_true rfl) dL_law_784 (q := 787) rfl ?_
  rintro _ _ ⟨rfl, W, rfl⟩
  refine v_icmp_eq hC dL_law_787 (t := 1241) rfl (q := 790) rfl (fun _ => ?_) (fun h => absurd (rfl) h)
  exact nx _ _ _ _ _ _ _ _ _ _ _ _ _ _ (rel_fn (rel_j hRel0))

set_option maxHeartbeats 4000000 in
set_option maxRecDepth 100000 in
theorem law_sharpest {l : Launch} {X : Gx} {C : Cx} {b L j : Nat} {xs : Nat → Int32} (hC : cOK X room_1 C cL_law RL) (hX : cX X C b L xs) (hL : L ≤ 3072) (hj : 6 * (j + 1) ≤ L) (nx : NX l X C b j 1241) {i m : Nat → Int32} {r : Nat → Nat → Int32} {c : Nat → Int64} {q nu : Nat → Nat → Int32} {vc : Nat → Nat → Nat → Int32} {sb : Nat → Nat → Int32} {tp by_ : Nat → Int32} {sh : Nat → Nat → Int32} {nn : Nat → Nat → Int64} {fo : Nat → Int32} {kp : Int32} (hRel : Rel i m r c q nu vc tp by_ sh nn fo kp) : V l X room_1 C (ch X (i, m, r, c) q nu vc sb tp by_ sh nn fo kp) 792 [some (.ref b), some (.ref (ga X 0)), some (.ref (ga X 47)), some (.int (nI (6 * j)))] [] := by
  have hRel0 := hRel
  obtain ⟨n, T, hQ, hKp, ⟨ht, hi, hT⟩, rfl, rfl, rfl, hb0, hb1, hZ, hnn⟩ := hRel
  have hQ1 := hQ
  obtain ⟨h8, hm1, hN, hd, hnu, hvv, hok⟩ := hQ1
  refine v_aload_n hC rfl dL_law_792 (q := 793) rfl ?_
  refine v_aload_n hC rfl dL_law_793 (q := 794) rfl ?_
  refine v_iload_n hC rfl dL_law_794 (q := 795) rfl ?_
  refine v_iconst hC (v := 1) rfl dL_law_795 (q := 796) rfl ?_
  refine v_iadd hC dL_law_796 (q := 797) rfl ?_
  refine v_sld hC hX (k := 6 * j + 1) (by omega) hL (n6 j 1) dL_law_797 (q := 798) rfl ?_
  refine v_Vi hC lkV_L_96 (c_X5_sharpest hN h8 hnu hok) rfl (by decide) (k := 0) (by decide) ch_0 rfl rfl (Nat.le_of_ble_eq_true rfl) dL_law_798 (q := 801) rfl ?_
  rintro _ _ ⟨rfl, q2, n2, v2, sb2, rfl⟩
  rw [cg_sharpest h8 hvv]
  refine v_aload_n hC rfl dL_law_801 (q := 802) rfl ?_
  refine v_aload_n hC rfl dL_law_802 (q := 803) rfl ?_
  refine v_iload_n hC rfl dL_law_803 (q := 804) rfl ?_
  refine v_iconst hC (v := 1) rfl dL_law_804 (q := 805) rfl ?_
  refine v_iadd hC dL_law_805 (q := 806) rfl ?_
  refine v_sld hC hX (k := 6 * j + 1) (by omega) hL (n6 j 1) dL_law_806 (q := 807) rfl ?_
  refine v_Vi hC lkV_L_99 (c_X6_sharpest hm1 h8) rfl (by decide) (k := 47) (by decide) hp_47 rfl rfl (Nat.le_of_ble_eq_true rfl) dL_law_807 (q := 810) rfl ?_
  rintro _ _ ⟨rfl, W, rfl⟩
  refine v_icmp_eq hC dL_law_810 (t := 1241) rfl (q := 813) rfl (fun _ => ?_) (fun h => absurd (rfl) h)
  exact nx _ _ _ _ _ _ _ _ _ _ _ _ _ _ (rel_fn (rel_j hRel0))

set_option maxHeartbeats 4000000 in
set_option maxRecDepth 100000 in
theorem law_push {l : Launch} {X : Gx} {C : Cx} {b L j : Nat} {xs : Nat → Int32} (hC : cOK X room_1 C cL_law RL) (hX : cX X C b L xs) (hL : L ≤ 3072) (hj : 6 * (j + 1) ≤ L) (nx : NX l X C b j 1241) {i m : Nat → Int32} {r : Nat → Nat → Int32} {c : Nat → Int64} {q nu : Nat → Nat → Int32} {vc : Nat → Nat → Nat → Int32} {sb : Nat → Nat → Int32} {tp by_ : Nat → Int32} {sh : Nat → Nat → Int32} {nn : Nat → Nat → Int64} {fo : Nat → Int32} {kp : Int32} (hRel : Rel i m r c q nu vc tp by_ sh nn fo kp) : V l X room_1 C (ch X (i, m, r, c) q nu vc sb tp by_ sh nn fo kp) 815 [some (.ref b), some (.ref (ga X 0)), some (.ref (ga X 47)), some (.int (nI (6 * j)))] [] := by
  have hRel0 := hRel
  obtain ⟨n, T, hQ, hKp, ⟨ht, hi, hT⟩, rfl, rfl, rfl, hb0, hb1, hZ, hnn⟩ := hRel
  have hQ1 := hQ
  obtain ⟨h8, hm1, hN, hd, hnu, hvv, hok⟩ := hQ1
  refine v_aload_n hC rfl dL_law_815 (q := 816) rfl ?_
  refine v_Vi hC lkV_L_100 (c_X5_push hN h8 hnu hok) rfl (by decide) (k := 0) (by decide) ch_0 rfl rfl (Nat.le_of_ble_eq_true rfl) dL_law_816 (q := 819) rfl ?_
  rintro _ _ ⟨rfl, q2, n2, v2, sb2, rfl⟩
  rw [cg_push h8 hvv]
  refine v_aload_n hC rfl dL_law_819 (q := 820) rfl ?_
  refine v_Vi hC lkV_L_104 (c_X6_push hm1 h8) rfl (by decide) (k := 47) (by decide) hp_47 rfl rfl (Nat.le_of_ble_eq_true rfl) dL_law_820 (q := 823) rfl ?_
  rintro _ _ ⟨rfl, W, rfl⟩
  refine v_icmp_eq hC dL_law_823 (t := 1241) rfl (q := 826) rfl (fun _ => ?_) (fun h => absurd (rfl) h)
  exact nx _ _ _ _ _ _ _ _ _ _ _ _ _ _ (rel_fn (rel_j hRel0))
