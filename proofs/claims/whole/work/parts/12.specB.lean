/-! ===== what each call answers: a finding (.inl, 0 BEYOND .. 6 SIZE) or a number ===== -/
abbrev An : Type := Nat ⊕ Int32
def ansI : An → Int32
  | .inl k => fnd k
  | .inr z => z
def fnR (r : Nat → Nat → Int32) : An → Nat → Nat → Int32
  | .inl k => fR r k
  | .inr _ => r
/-- who is meant -/
def pIx (n : Nat) (p : Int32) : Option Nat := if 0 ≤ p.toInt ∧ p.toInt < n then some p.toInt.toNat else none
theorem pIx_nI {n P : Nat} (h : P < n) (h8 : n ≤ 8) : pIx n (nI P) = some P := by
  have e : (nI P).toInt = (P : Int) := nI_toInt (by omega)
  unfold pIx
  rw [e, if_pos ⟨by omega, by omega⟩]
  simp
theorem pIx_no {n : Nat} {p : Int32} (h8 : n ≤ 8) (h : ¬ ∃ P, P < n ∧ p = nI P) : pIx n p = none := by
  unfold pIx
  rw [if_neg]
  rintro ⟨h1, h2⟩
  refine h ⟨p.toInt.toNat, by omega, Int32.toInt_inj.mp ?_⟩
  rw [nI_toInt (by omega)]
  omega
theorem pIx_some {n P : Nat} {p : Int32} (h8 : n ≤ 8) (h : pIx n p = some P) : P < n ∧ p = nI P := by
  unfold pIx at h
  split at h
  · cases h
    refine ⟨by omega, Int32.toInt_inj.mp ?_⟩
    rw [nI_toInt (by omega)]
    omega
  · cases h
theorem w_of {w : Int32} {N : Nat} (hN : N < 1000) (h0 : 0 ≤ w) (h1 : w < nI N) : ∃ W, W < N ∧ w = nI W := by
  rw [fa_le] at h0
  rw [fa_lt, nI_toInt (by omega)] at h1
  have h0' : 0 ≤ w.toInt := h0
  refine ⟨w.toInt.toNat, by omega, Int32.toInt_inj.mp ?_⟩
  rw [nI_toInt (by omega)]
  omega
def S_person (n : Nat) (kd : Int32) : An := if 0 ≤ kd ∧ kd ≤ 5 then (if n = 8 then .inl 1 else .inr (nI n)) else .inl 0
def S_of (n : Nat) (g : Nat → Nat → Int32) (p w : Int32) : An := match pIx n p with
  | none => .inl 0
  | some P => if 0 ≤ w ∧ w ≤ 9 then (if w < 7 then .inr (g P w.toNatClampNeg) else if w = 7 then .inr (grindF (g P)) else if w = 8 then .inr (easeF (nI P) (g P)) else .inr (growF (nI P) (g P))) else .inl 0
def mayF (n : Nat) (w v : Int32) : Prop := (1 ≤ w ∧ w ≤ 6) ∧ (if w = 2 ∨ w = 4 then -1 ≤ v ∧ v ≤ nI n - 1 else if w = 3 then 0 ≤ v ∧ v ≤ 1 else 0 ≤ v ∧ v ≤ 99)
def S_set (n : Nat) (g : Nat → Nat → Int32) (p w v : Int32) : An := match pIx n p with
  | none => .inl 0
  | some P => if (1 ≤ w ∧ w ≤ 6) ∧ (if w = 2 ∨ w = 4 then -1 ≤ v ∧ v ≤ nI n - 1 else if w = 3 then 0 ≤ v ∧ v ≤ 1 else 0 ≤ v ∧ v ≤ 99) then .inr (g P w.toNatClampNeg) else .inl 0
def M_set (n : Nat) (m : Nat → Int32) (p w v : Int32) : Nat → Int32 := match pIx n p with
  | none => m
  | some P => if (1 ≤ w ∧ w ≤ 6) ∧ (if w = 2 ∨ w = 4 then -1 ≤ v ∧ v ≤ nI n - 1 else if w = 3 then 0 ≤ v ∧ v ≤ 1 else 0 ≤ v ∧ v ≤ 99) then pu m P w.toNatClampNeg v else m
def S_turn (n : Nat) (g : Nat → Nat → Int32) (p kd : Int32) : An := match pIx n p with
  | none => .inl 0
  | some P => if 0 ≤ kd ∧ kd ≤ 5 then .inr (g P 0) else .inl 0
def M_turn (n : Nat) (m : Nat → Int32) (p kd : Int32) : Nat → Int32 := match pIx n p with
  | none => m
  | some P => if 0 ≤ kd ∧ kd ≤ 5 then pu m P 0 kd else m
def S_as (n : Nat) (g : Nat → Nat → Int32) (p kd : Int32) : An := match pIx n p with
  | none => .inl 0
  | some P => if 0 ≤ kd ∧ kd ≤ 5 then (if kd = 0 ∨ kd = g P 0 ∨ (kd = 1 ∧ g P 0 = 4) ∨ (kd = 2 ∧ g P 0 = 5) then .inr (g P 1) else .inl 2) else .inl 0
def S_grind (n : Nat) (g : Nat → Nat → Int32) (p : Int32) : An := match pIx n p with
  | none => .inl 0
  | some P => if g P 2 < 0 then .inl 4 else .inr (grindF (g P))
def M_grind (n : Nat) (m : Nat → Int32) (p : Int32) : Nat → Int32 := match pIx n p with
  | none => m
  | some P => if pv m P 2 < 0 then m else groundM m P
/-- two that are apart -/
def pTw (n : Nat) (p q : Int32) : Option (Nat × Nat) := match pIx n p, pIx n q with
  | some P, some Q => if P = Q then none else some (P, Q)
  | _, _ => none
theorem pTw_nI {n P Q : Nat} (h8 : n ≤ 8) (h1 : P < n) (h2 : Q < n) (h3 : P ≠ Q) : pTw n (nI P) (nI Q) = some (P, Q) := by simp [pTw, pIx_nI h1 h8, pIx_nI h2 h8, h3]
theorem pTw_no {n : Nat} {p q : Int32} (h8 : n ≤ 8) (h : ¬ ∃ P Q, P < n ∧ Q < n ∧ P ≠ Q ∧ p = nI P ∧ q = nI Q) : pTw n p q = none := by
  unfold pTw
  cases e1 : pIx n p with
  | none => rfl
  | some P =>
    cases e2 : pIx n q with
    | none => rfl
    | some Q =>
      obtain ⟨a1, a2⟩ := pIx_some h8 e1
      obtain ⟨b1, b2⟩ := pIx_some h8 e2
      by_cases e : P = Q
      · simp [e]
      · exact absurd ⟨P, Q, a1, b1, e, a2, b2⟩ h
theorem pTw_some {n P Q : Nat} {p q : Int32} (h8 : n ≤ 8) (h : pTw n p q = some (P, Q)) : P < n ∧ Q < n ∧ P ≠ Q ∧ p = nI P ∧ q = nI Q := by
  unfold pTw at h
  cases e1 : pIx n p with
  | none => rw [e1] at h; cases h
  | some P1 =>
    cases e2 : pIx n q with
    | none => rw [e1, e2] at h; cases h
    | some Q1 =>
      rw [e1, e2] at h
      obtain ⟨a1, a2⟩ := pIx_some h8 e1
      obtain ⟨b1, b2⟩ := pIx_some h8 e2
      by_cases e : P1 = Q1
      · simp [e] at h
      · simp [e] at h
        obtain ⟨rfl, rfl⟩ := h
        exact ⟨a1, b1, e, a2, b2⟩
def S_lend (n : Nat) (p q : Int32) : An := match pTw n p q with
  | none => .inl 0
  | some _ => .inr 1
def swap3 (m : Nat → Int32) (p q : Nat) : Nat → Int32 := swapM (swapM (swapM m p q 4) p q 5) p q 6
def M_lend (n : Nat) (m : Nat → Int32) (p q : Int32) : Nat → Int32 := match pTw n p q with
  | none => m
  | some (P, Q) => swap3 m P Q
def S_looks (n : Nat) (g : Nat → Nat → Int32) (p q : Int32) : An := match pTw n p q with
  | none => .inl 0
  | some (P, _) => .inr (lookF (nI P) (g P) q)
def S_sees (n : Nat) (g : Nat → Nat → Int32) (p v : Int32) : An := match pIx n p with
  | none => .inl 0
  | some P => if 0 ≤ v ∧ v ≤ 198 then .inr (seesF (nI P) (g P) v n) else .inl 0
def S_days (n : Nat) (g : Nat → Nat → Int32) (d k : Int32) : An := if 1 ≤ k ∧ k ≤ 100 then (if d + k ≤ 9999 then .inr (sumF g 1 n) else .inl 4) else .inl 0
def M_days (n : Nat) (m : Nat → Int32) (k : Int32) : Nat → Int32 := if 1 ≤ k ∧ k ≤ 100 then (if m 0 + k ≤ 9999 then goN n m k.toNatClampNeg else m) else m
def S_now (n : Nat) (g : Nat → Nat → Int32) (d w : Int32) : An := if w = 0 then .inr d else if w = 1 then .inr (sumF g 1 n) else if w = 2 then .inr (withF g 1 0 n) else if w = 3 then .inr (seenF g n n) else if w = 4 then .inr (withF g 3 1 n) else .inl 0
