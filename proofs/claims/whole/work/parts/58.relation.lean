theorem cg_of {n : Nat} (h8 : n ≤ 8) {g g' : Nat → Nat → Int32} (h : ∀ p, p < n → g p = g' p) {p w : Int32} : S_of n g p w = S_of n g' p w := by
  unfold S_of
  cases e : pIx n p with
  | none => rfl
  | some P =>
    have e2 := h P (pIx_some h8 e).1
    dsimp only
    rw [e2]
theorem cg_set {n : Nat} (h8 : n ≤ 8) {g g' : Nat → Nat → Int32} (h : ∀ p, p < n → g p = g' p) {p w v : Int32} : S_set n g p w v = S_set n g' p w v := by
  unfold S_set
  cases e : pIx n p with
  | none => rfl
  | some P =>
    have e2 := h P (pIx_some h8 e).1
    dsimp only
    rw [e2]
theorem cg_turn {n : Nat} (h8 : n ≤ 8) {g g' : Nat → Nat → Int32} (h : ∀ p, p < n → g p = g' p) {p kd : Int32} : S_turn n g p kd = S_turn n g' p kd := by
  unfold S_turn
  cases e : pIx n p with
  | none => rfl
  | some P =>
    have e2 := h P (pIx_some h8 e).1
    dsimp only
    rw [e2]
theorem cg_as {n : Nat} (h8 : n ≤ 8) {g g' : Nat → Nat → Int32} (h : ∀ p, p < n → g p = g' p) {p kd : Int32} : S_as n g p kd = S_as n g' p kd := by
  unfold S_as
  cases e : pIx n p with
  | none => rfl
  | some P =>
    have e2 := h P (pIx_some h8 e).1
    dsimp only
    rw [e2]
theorem cg_grind {n : Nat} (h8 : n ≤ 8) {g g' : Nat → Nat → Int32} (h : ∀ p, p < n → g p = g' p) {p  : Int32} : S_grind n g p  = S_grind n g' p  := by
  unfold S_grind
  cases e : pIx n p with
  | none => rfl
  | some P =>
    have e2 := h P (pIx_some h8 e).1
    dsimp only
    rw [e2]
theorem cg_sees {n : Nat} (h8 : n ≤ 8) {g g' : Nat → Nat → Int32} (h : ∀ p, p < n → g p = g' p) {p v : Int32} : S_sees n g p v = S_sees n g' p v := by
  unfold S_sees
  cases e : pIx n p with
  | none => rfl
  | some P =>
    have e2 := h P (pIx_some h8 e).1
    dsimp only
    rw [e2]
theorem cg_on {n : Nat} (h8 : n ≤ 8) {g g' : Nat → Nat → Int32} (h : ∀ p, p < n → g p = g' p) {p k w : Int32} : S_on n g p k w = S_on n g' p k w := by
  unfold S_on
  cases e : pIx n p with
  | none => rfl
  | some P =>
    have e2 := h P (pIx_some h8 e).1
    dsimp only
    rw [e2]
theorem cg_forgives {n : Nat} (h8 : n ≤ 8) {g g' : Nat → Nat → Int32} (h : ∀ p, p < n → g p = g' p) {p  : Int32} : S_forgives n g p  = S_forgives n g' p  := by
  unfold S_forgives
  cases e : pIx n p with
  | none => rfl
  | some P =>
    have e2 := h P (pIx_some h8 e).1
    dsimp only
    rw [e2]
theorem cg_worn {n : Nat} (h8 : n ≤ 8) {g g' : Nat → Nat → Int32} (h : ∀ p, p < n → g p = g' p) {p  : Int32} : S_worn n g p  = S_worn n g' p  := by
  unfold S_worn
  cases e : pIx n p with
  | none => rfl
  | some P =>
    have e2 := h P (pIx_some h8 e).1
    dsimp only
    rw [e2]
theorem cg_kind {n : Nat} (h8 : n ≤ 8) {g g' : Nat → Nat → Int32} (h : ∀ p, p < n → g p = g' p) {p  : Int32} : S_kind n g p  = S_kind n g' p  := by
  unfold S_kind
  cases e : pIx n p with
  | none => rfl
  | some P =>
    have e2 := h P (pIx_some h8 e).1
    dsimp only
    rw [e2]
theorem cg_better {n : Nat} (h8 : n ≤ 8) {g g' : Nat → Nat → Int32} (h : ∀ p, p < n → g p = g' p) {p k : Int32} : S_better n g p k = S_better n g' p k := by
  unfold S_better
  cases e : pIx n p with
  | none => rfl
  | some P =>
    have e2 := h P (pIx_some h8 e).1
    dsimp only
    rw [e2]
theorem cg_most {n : Nat} (h8 : n ≤ 8) {g g' : Nat → Nat → Int32} (h : ∀ p, p < n → g p = g' p) {p k : Int32} : S_most n g p k = S_most n g' p k := by
  unfold S_most
  cases e : pIx n p with
  | none => rfl
  | some P =>
    have e2 := h P (pIx_some h8 e).1
    dsimp only
    rw [e2]
theorem cg_looks {n : Nat} (h8 : n ≤ 8) {g g' : Nat → Nat → Int32} (h : ∀ p, p < n → g p = g' p) {p q  : Int32} : S_looks n g p q  = S_looks n g' p q  := by
  unfold S_looks
  cases e : pTw n p q with
  | none => rfl
  | some x =>
    obtain ⟨P, Q⟩ := x
    have e2 := h P (pTw_some h8 e).1
    dsimp only
    rw [e2]
theorem cg_then {n : Nat} (h8 : n ≤ 8) {g g' : Nat → Nat → Int32} (h : ∀ p, p < n → g p = g' p) {p q k : Int32} : S_then n g p q k = S_then n g' p q k := by
  unfold S_then
  cases e : pTw n p q with
  | none => rfl
  | some x =>
    obtain ⟨P, Q⟩ := x
    have e2 := h P (pTw_some h8 e).1
    dsimp only
    rw [e2]
theorem cg_now {n : Nat} (h8 : n ≤ 8) {g g' : Nat → Nat → Int32} (h : ∀ p, p < n → g p = g' p) {d w : Int32} : S_now n g d w = S_now n g' d w := by
  unfold S_now
  rw [sumF_congr n h, withF_congr n h, withF_congr n h, seenF_congr n h]
theorem cg_unseen {n : Nat} (h8 : n ≤ 8) {g g' : Nat → Nat → Int32} (h : ∀ p, p < n → g p = g' p) {p : Int32} : S_unseen n g p = S_unseen n g' p := by
  unfold S_unseen
  cases e : pIx n p with
  | none => rfl
  | some P =>
    dsimp only
    rw [uns_congr h]
theorem bst_congr {e e' : Nat → Nat} {may : Nat → Bool} {s0 : Nat} : ∀ k, (∀ j, j < k → e j = e' j) → bstF e may s0 k = bstF e' may s0 k
  | 0, _ => rfl
  | k + 1, h => by rw [bstF, bstF, bst_congr k (fun j hj => h j (by omega)), h k (by omega)]
theorem cg_borrow {n : Nat} (h8 : n ≤ 8) {g g' : Nat → Nat → Int32} (h : ∀ p, p < n → g p = g' p) {p : Int32} : S_borrow n g p = S_borrow n g' p := by
  unfold S_borrow
  cases e : pIx n p with
  | none => rfl
  | some P =>
    have e2 := h P (pIx_some h8 e).1
    dsimp only
    rw [e2, bst_congr n (fun j hj => by rw [h j hj])]
theorem cg_sharpest {n : Nat} (h8 : n ≤ 8) {g g' : Nat → Nat → Int32} (h : ∀ p, p < n → g p = g' p) {k : Int32} : S_sharpest n g k = S_sharpest n g' k := by
  unfold S_sharpest
  rw [sha_congr n (fun p hp => by rw [h p hp])]
theorem psh_congr {b b' : Nat → Bool} : ∀ k, (∀ j, j < k → b j = b' j) → pshF b k = pshF b' k
  | 0, _ => rfl
  | k + 1, h => by rw [pshF, pshF, psh_congr k (fun j hj => h j (by omega)), h k (by omega)]
theorem cg_push {n : Nat} (h8 : n ≤ 8) {g g' : Nat → Nat → Int32} (h : ∀ p, p < n → g p = g' p) : S_push n g = S_push n g' := by
  unfold S_push
  rw [psh_congr (b' := okP n g') (2 ^ n) (fun j _ => by rw [okP, okP, seenF_congr (g := upG g (nI j)) (g' := upG g' (nI j)) n (fun p hp => by simp only [upG, h p hp])])]
theorem cnt_congr {b b' : Nat → Bool} : ∀ k, (∀ j, j < k → b j = b' j) → cntN b k = cntN b' k
  | 0, _ => rfl
  | k + 1, h => by rw [cntN, cntN, cnt_congr k (fun j hj => h j (by omega)), h k (by omega)]
theorem cg_count {n : Nat} (h8 : n ≤ 8) {g g' : Nat → Nat → Int32} (h : ∀ p, p < n → g p = g' p) {tp w : Int32} : S_count n g tp w = S_count n g' tp w := by
  unfold S_count
  rw [sumF_congr n h, cnt_congr n (fun p hp => by rw [h p hp])]
theorem lays_cg {cq cq' : Nat → Int64} : ∀ k, (∀ j, j < k → cq j = cq' j) → laN cq k = laN cq' k
  | 0, _ => rfl
  | k + 1, h => by
    have e : laK cq k = laK cq' k := by rw [laK, laK, h k (by omega)]
    rw [laN, laN, lays_cg k (fun j hj => h j (by omega)), e]
theorem laM_cg {cq cq' : Nat → Int64} {m : Nat → Int32} : ∀ k, (∀ j, j < k → cq j = cq' j) → laM cq m k = laM cq' m k
  | 0, _ => rfl
  | k + 1, h => by
    have e : laK cq k = laK cq' k := by rw [laK, laK, h k (by omega)]
    rw [laM, laM, laM_cg k (fun j hj => h j (by omega)), e, h k (by omega)]
theorem rd_cg {cq cq' : Nat → Int64} {z : Nat} {k : Int32} {v : Nat → Int32} (h : ∀ j, j < z → cq j = cq' j) : rdN cq z k v = rdN cq' z k v := by
  rw [rdN_eq, rdN_eq]
  refine cnt_congr 600 (fun j _ => ?_)
  rw [rdK, rdK]
  refine decide_eq_decide.mpr ?_
  constructor
  · intro y x hx; rw [← h x hx]; exact y x hx
  · intro y x hx; rw [h x hx]; exact y x hx
theorem la_b {x : Int64} (h1 : (0 : Int32).toInt64 ≤ x) (h2 : x ≤ (99 : Int32).toInt64) : 0 ≤ x.toInt32 ∧ x.toInt32 ≤ 99 := by
  rw [fa_le64, Int32.toInt_toInt64] at h1 h2
  have a1 : 0 ≤ x.toInt := h1
  have a2 : x.toInt ≤ 99 := h2
  have e : x.toInt32.toInt = x.toInt := by
    rw [Int64.toInt_toInt32]
    exact Int.bmod_eq_of_le (by omega) (by omega)
  rw [fa_le, fa_le, e]
  exact ⟨a1, a2⟩
theorem qR_lays {m : Nat → Int32} {n : Nat} {qq nq : Nat → Int32} {vv : Nat → Nat → Int32} {cq : Nat → Int64} (h : qR m n qq nq vv) : ∀ k, k ≤ n → qR (laM cq m k) n qq nq (laV cq vv k)
  | 0, _ => h
  | k + 1, hk => by
    have ih := qR_lays (cq := cq) h k (by omega)
    rw [laM, laV]
    by_cases hl : laK cq k = true
    · rw [if_pos hl, if_pos hl]
      have hb := of_decide_eq_true hl
      exact qR_one (m' := pu (laM cq m k) k 1 (cq k).toInt32) ih (by omega) pu_0 pu_1 (by rw [pv_pu (by decide), ← ih.2.2.2.2.2.1 k (by omega)]) (fun p hp => pv_ne (by decide) hp) (okV_1 (ih.2.2.2.2.2.2 k (by omega)) (la_b hb.1 hb.2))
    · rw [if_neg hl, if_neg hl]; exact ih
theorem okV_up {v : Nat → Int32} {n : Nat} {w x : Int32} (h : okV v) (hw : (1 ≤ w ∧ w ≤ 6) ∧ (if w = 2 ∨ w = 4 then -1 ≤ x ∧ x ≤ nI n - 1 else if w = 3 then 0 ≤ x ∧ x ≤ 1 else 0 ≤ x ∧ x ≤ 99)) : okV (upd v w.toNatClampNeg x) ∧ w.toNatClampNeg < 7 := by
  obtain ⟨⟨z1, z2⟩, hx⟩ := hw
  obtain ⟨W, w1, w6, rfl⟩ := w_of' (a := 1) (N := 6) (by decide) (by decide) z1 z2
  rw [nI_clamp (by omega)]
  obtain ⟨h0, h1, h2, h3, h4, h5, h6⟩ := h
  rcases (show W = 1 ∨ W = 2 ∨ W = 3 ∨ W = 4 ∨ W = 5 ∨ W = 6 by omega) with rfl | rfl | rfl | rfl | rfl | rfl
  · rw [if_neg (by decide), if_neg (by decide)] at hx
    exact ⟨⟨h0, hx, h2, h3, h4, h5, h6⟩, by decide⟩
  · rw [if_pos (by decide)] at hx
    exact ⟨⟨h0, h1, hx.1, h3, h4, h5, h6⟩, by decide⟩
  · rw [if_neg (by decide), if_pos (by decide)] at hx
    have hx2 : x = 0 ∨ x = 1 := by
      obtain ⟨K, -, hK, rfl⟩ := w_of' (a := 0) (N := 1) (by decide) (by decide) hx.1 hx.2
      rcases (show K = 0 ∨ K = 1 by omega) with rfl | rfl
      · exact Or.inl rfl
      · exact Or.inr rfl
    exact ⟨⟨h0, h1, h2, hx2, h4, h5, h6⟩, by decide⟩
  · rw [if_pos (by decide)] at hx
    exact ⟨⟨h0, h1, h2, h3, hx.1, h5, h6⟩, by decide⟩
  · rw [if_neg (by decide), if_neg (by decide)] at hx
    exact ⟨⟨h0, h1, h2, h3, h4, hx, h6⟩, by decide⟩
  · rw [if_neg (by decide), if_neg (by decide)] at hx
    exact ⟨⟨h0, h1, h2, h3, h4, h5, hx⟩, by decide⟩
section QS
variable {m : Nat → Int32} {n : Nat} {qq nq : Nat → Int32} {vv : Nat → Nat → Int32}
theorem qR_set (h : qR m n qq nq vv) {p w v : Int32} : qR (M_set n m p w v) n qq nq (V_set n vv p w v) := by
  unfold M_set V_set
  cases e : pIx n p with
  | none => exact h
  | some P =>
    have hP := (pIx_some h.1 e).1
    dsimp only
    by_cases hc : (1 ≤ w ∧ w ≤ 6) ∧ (if w = 2 ∨ w = 4 then -1 ≤ v ∧ v ≤ nI n - 1 else if w = 3 then 0 ≤ v ∧ v ≤ 1 else 0 ≤ v ∧ v ≤ 99)
    · rw [if_pos hc, if_pos hc]
      have ho := okV_up (h.2.2.2.2.2.2 P hP) hc
      exact qR_one (m' := pu m P w.toNatClampNeg v) h hP pu_0 pu_1 (by rw [pv_pu ho.2, ← h.2.2.2.2.2.1 P hP]) (fun p hp => pv_ne ho.2 hp) ho.1
    · rw [if_neg hc, if_neg hc]; exact h
theorem qR_turn (h : qR m n qq nq vv) {p kd : Int32} : qR (M_turn n m p kd) n qq nq (V_turn n vv p kd) := by
  unfold M_turn V_turn
  cases e : pIx n p with
  | none => exact h
  | some P =>
    have hP := (pIx_some h.1 e).1
    dsimp only
    split
    · rename_i hc
      exact qR_one (m' := pu m P 0 kd) h hP pu_0 pu_1 (by rw [pv_pu (by decide), ← h.2.2.2.2.2.1 P hP]) (fun p hp => pv_ne (by decide) hp) (okV_0 (h.2.2.2.2.2.2 P hP) hc)
    · exact h
theorem qR_grind (h : qR m n qq nq vv) {p : Int32} : qR (M_grind n m p) n qq nq (V_grind n vv p) := by
  unfold M_grind V_grind
  cases e : pIx n p with
  | none => exact h
  | some P =>
    have hP := (pIx_some h.1 e).1
    dsimp only
    rw [← h.2.2.2.2.2.1 P hP]
    split
    · exact h
    · exact qR_one (m' := groundM m P) h hP groundM_0 groundM_1 (by rw [pv_grd, ← h.2.2.2.2.2.1 P hP]) (fun p hp => pv_grdn hp) (okV_grd (h.2.2.2.2.2.2 P hP))
theorem okV_sw {v w : Nat → Int32} (h : okV v) (h' : okV w) : okV (vsw v w) := by
  obtain ⟨h0, h1, h2, h3, h4, h5, h6⟩ := h
  obtain ⟨g0, g1, g2, g3, g4, g5, g6⟩ := h'
  exact ⟨h0, h1, h2, h3, g4, g5, g6⟩
theorem swap3_0 {m : Nat → Int32} {p q : Nat} : swap3 m p q 0 = m 0 := by simp only [swap3, swapM, pu_0]
theorem qR_lend (h : qR m n qq nq vv) {p q : Int32} : qR (M_lend n m p q) n qq nq (V_lend n vv p q) := by
  unfold M_lend V_lend
  cases e : pTw n p q with
  | none => exact h
  | some x =>
    obtain ⟨P, Q⟩ := x
    obtain ⟨hP, hQ, hne, -, -⟩ := pTw_some h.1 e
    dsimp only
    obtain ⟨a1, a2, a3, a4, a5, a6, a7⟩ := h
    refine ⟨a1, swap3_1.trans a2, a3, a4.trans swap3_0.symm, a5, fun k hk => ?_, fun k hk => ?_⟩
    · by_cases e1 : k = Q
      · subst e1; rw [va_up_self, pv_swap3' hne, a6 _ hP, a6 _ hQ]
      · rw [va_up_ne _ _ e1]
        by_cases e2 : k = P
        · subst e2; rw [va_up_self, pv_swap3 hne, a6 _ hP, a6 _ hQ]
        · rw [va_up_ne _ _ e2, pv_swap3n (Ne.symm e2) (Ne.symm e1)]; exact a6 k hk
    · by_cases e1 : k = Q
      · subst e1; rw [va_up_self]; exact okV_sw (a7 _ hQ) (a7 _ hP)
      · rw [va_up_ne _ _ e1]
        by_cases e2 : k = P
        · subst e2; rw [va_up_self]; exact okV_sw (a7 _ hP) (a7 _ hQ)
        · rw [va_up_ne _ _ e2]; exact a7 k hk
theorem goN_0 : ∀ k, goN n m k 0 = m 0 + nI k
  | 0 => by rw [goN, show nI 0 = 0 from rfl]; simp
  | k + 1 => by rw [goN, goM_0, goN_0 k, ← nI_1, Int32.add_assoc]
theorem qR_days (h : qR m n qq nq vv) (K : Nat) : qR (goN n m K) n (upd qq 0 (qq 0 + nI K)) nq (dyV vv n K 0) := by
  obtain ⟨a1, a2, a3, a4, a5, a6, a7⟩ := h
  refine ⟨a1, (goN_1 K).trans a2, a3, ?_, a5, fun p hp => ?_, fun p hp => dyV_ok a7 hp⟩
  · rw [goN_0, ← a4]; rfl
  · rw [dyV_it hp, pv_goN hp, a6 p hp]
end QS
/-! the whole relation -/
def Rel (i m : Nat → Int32) (r : Nat → Nat → Int32) (c : Nat → Int64) (q nu : Nat → Nat → Int32) (vc : Nat → Nat → Nat → Int32) (tp by_ : Nat → Int32) (sh : Nat → Nat → Int32) (nn : Nat → Nat → Int64) (fo : Nat → Int32) (kp : Int32) : Prop :=
  ∃ n T, qR m n (q 0) (nu 0) (vc 0) ∧ (i 0 = 0 ∨ ∃ n1, qR (r 1) n1 (q 1) (nu 1) (vc 1)) ∧ (tp 0 = nI T ∧ i 1 = nI T ∧ T ≤ 120) ∧ kp = i 0 ∧ by_ = r 4 ∧ fo = r 3 ∧ (fun s => sh s 0) = r 5 ∧ (fun s => sh s 1) = r 6 ∧ szOK (r 6) ∧ (∀ s, s < 4 → ∀ k, k < 40 → nn s k = c (40 * s + k))
section RL
variable {i m : Nat → Int32} {r : Nat → Nat → Int32} {c : Nat → Int64} {q nu : Nat → Nat → Int32} {vc : Nat → Nat → Nat → Int32} {tp by_ : Nat → Int32} {sh : Nat → Nat → Int32} {nn : Nat → Nat → Int64} {fo : Nat → Int32} {kp : Int32}
theorem rel_fn {x : An} (h : Rel i m r c q nu vc tp by_ sh nn fo kp) : Rel i m (fnR r x) c q nu vc tp by_ sh nn (fnF fo x) kp := by
  cases x with
  | inr z => exact h
  | inl k =>
    obtain ⟨n, T, h1, h2, h3, h4, h5, h6, h7, h8, h9, h10⟩ := h
    exact ⟨n, T, h1, h2, h3, h4, h5, by rw [h6]; rfl, h7, h8, h9, h10⟩
theorem rel_fnL {x : AnL} (h : Rel i m r c q nu vc tp by_ sh nn fo kp) : Rel i m (fnL r x) c q nu vc tp by_ sh nn (fnFL fo x) kp := by
  cases x with
  | inr z => exact h
  | inl k =>
    obtain ⟨n, T, h1, h2, h3, h4, h5, h6, h7, h8, h9, h10⟩ := h
    exact ⟨n, T, h1, h2, h3, h4, h5, by rw [h6]; rfl, h7, h8, h9, h10⟩
theorem rel_j {W : Nat → Int32} {q2 n2 : Nat → Int32} {v2 : Nat → Nat → Int32} (h : Rel i m r c q nu vc tp by_ sh nn fo kp) : Rel i m (va_up r 2 W) c (va_up q 2 q2) (va_up nu 2 n2) (va_up vc 2 v2) tp by_ sh nn fo kp := h
theorem rel_0 : Rel (fun _ => 0) (fun _ => 0) (fun _ _ => 0) (fun _ => 0) (fun _ _ => 0) (fun _ _ => 0) (fun _ _ _ => 0) (fun _ => 0) (fun _ => 0) (fun _ _ => 0) (fun _ _ => 0) (fun _ => 0) 0 :=
  ⟨0, 0, ⟨by decide, rfl, rfl, rfl, fun p hp => absurd hp (Nat.not_lt_zero _), fun p hp => absurd hp (Nat.not_lt_zero _), fun p hp => absurd hp (Nat.not_lt_zero _)⟩, Or.inl rfl, ⟨rfl, rfl, by decide⟩, rfl, rfl, rfl, rfl, rfl, fun Q _ => ⟨0, by decide, rfl⟩, fun _ _ _ _ => rfl⟩
end RL