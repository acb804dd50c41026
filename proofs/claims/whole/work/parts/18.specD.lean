/-! ===== the text: tokens of the tape t of length T, read from a place p on ===== -/
def skF (b : Nat → Bool) : Nat → Nat → Nat
  | 0, p => p
  | f + 1, p => if b p then skF b f (p + 1) else p
theorem skF_ge {b : Nat → Bool} : ∀ f p, p ≤ skF b f p
  | 0, p => Nat.le_refl p
  | f + 1, p => by
    rw [skF]
    split
    · have := skF_ge (b := b) f (p + 1); omega
    · omega
theorem skF_le {b : Nat → Bool} : ∀ f p, skF b f p ≤ p + f
  | 0, p => Nat.le_refl p
  | f + 1, p => by
    rw [skF]
    split
    · have := skF_le (b := b) f (p + 1); omega
    · omega
theorem skF_in {b : Nat → Bool} : ∀ f p k, p ≤ k → k < skF b f p → b k = true
  | 0, p, k, h1, h2 => by rw [skF] at h2; omega
  | f + 1, p, k, h1, h2 => by
    rw [skF] at h2
    split at h2
    · by_cases e : k = p
      · subst e; assumption
      · exact skF_in f (p + 1) k (by omega) h2
    · omega
theorem skF_stop {b : Nat → Bool} : ∀ f p, skF b f p < p + f → b (skF b f p) = false
  | 0, p, h => by rw [skF] at h; omega
  | f + 1, p, h => by
    rw [skF] at h ⊢
    split at h
    · rename_i hb
      rw [if_pos hb]
      exact skF_stop f (p + 1) (by omega)
    · rename_i hb
      rw [if_neg hb]
      simpa using hb
theorem skF_congr {b b' : Nat → Bool} : ∀ f p, (∀ k, p ≤ k → k < p + f → b k = b' k) → skF b f p = skF b' f p
  | 0, _, _ => rfl
  | f + 1, p, h => by rw [skF, skF, h p (by omega) (by omega), skF_congr f (p + 1) (fun k h1 h2 => h k (by omega) (by omega))]
def isB (t : Nat → Int32) (k : Nat) : Bool := decide (32 ≤ t k ∧ t k ≤ 32)
def isL (t : Nat → Int32) (k : Nat) : Bool := decide (97 ≤ t k ∧ t k ≤ 122)
def isD (t : Nat → Int32) (k : Nat) : Bool := decide (48 ≤ t k ∧ t k ≤ 57)
def tkS (t : Nat → Int32) (T p : Nat) : Nat := skF (isB t) (T - p) p
def enW (t : Nat → Int32) (T s : Nat) : Nat := skF (isL t) (T - s) s
def enD (t : Nat → Int32) (T s : Nat) : Nat := skF (isD t) (T - s) s
def tkE (t : Nat → Int32) (T p : Nat) : Nat := if tkS t T p = T then T else if isL t (tkS t T p) then enW t T (tkS t T p) else if isD t (tkS t T p) then enD t T (tkS t T p) else tkS t T p + 1
def valF (t : Nat → Int32) (s : Nat) : Nat → Int32
  | 0 => 0
  | k + 1 => if 999 < valF t s k then valF t s k else 10 * valF t s k + t (s + k) - 48
def mW (t : Nat → Int32) (s len w : Nat) : Bool := decide (swN.getD w 0 = len ∧ ∀ k, k < len → (swL.getD w []).getD k 0 = t (s + k))
theorem wdF_ex : ∃ f : (Nat → Int32) → Nat → Nat → Option Nat, ∀ t s len, f t s len = fstN (mW t s len) 11 0 := ⟨fun t s len => fstN (mW t s len) 11 0, fun _ _ _ => rfl⟩
noncomputable def wdF : (Nat → Int32) → Nat → Nat → Option Nat := Classical.choose wdF_ex
theorem wdF_eq (t : Nat → Int32) (s len : Nat) : wdF t s len = fstN (mW t s len) 11 0 := Classical.choose_spec wdF_ex t s len
noncomputable def wordF (t : Nat → Int32) (s len : Nat) : Int32 := match wdF t s len with
  | some w => nI w
  | none => 23
def tkV (t : Nat → Int32) (T p : Nat) : Int32 := if tkS t T p = T then 0 else if isL t (tkS t T p) then 0 else if isD t (tkS t T p) then valF t (tkS t T p) (enD t T (tkS t T p) - tkS t T p) else 0
noncomputable def tkK (t : Nat → Int32) (T p : Nat) : Int32 := if tkS t T p = T then 22 else if isL t (tkS t T p) then wordF t (tkS t T p) (enW t T (tkS t T p) - tkS t T p) else if isD t (tkS t T p) then 20 else if 59 ≤ t (tkS t T p) ∧ t (tkS t T p) ≤ 59 then 21 else 23
theorem tkS_le {t : Nat → Int32} {T p : Nat} (h : p ≤ T) : p ≤ tkS t T p ∧ tkS t T p ≤ T := ⟨skF_ge _ _, by have := skF_le (b := isB t) (T - p) p; unfold tkS; omega⟩
theorem enW_le {t : Nat → Int32} {T s : Nat} (h : s ≤ T) : s ≤ enW t T s ∧ enW t T s ≤ T := ⟨skF_ge _ _, by have := skF_le (b := isL t) (T - s) s; unfold enW; omega⟩
theorem enD_le {t : Nat → Int32} {T s : Nat} (h : s ≤ T) : s ≤ enD t T s ∧ enD t T s ≤ T := ⟨skF_ge _ _, by have := skF_le (b := isD t) (T - s) s; unfold enD; omega⟩
theorem tkE_le {t : Nat → Int32} {T p : Nat} (h : p ≤ T) : tkS t T p ≤ tkE t T p ∧ tkE t T p ≤ T := by
  have h1 := (tkS_le (t := t) h).2
  have h2 := enW_le (t := t) h1
  have h3 := enD_le (t := t) h1
  unfold tkE
  split
  · omega
  · split
    · exact h2
    · split
      · exact h3
      · omega
theorem enW_gt {t : Nat → Int32} {T s : Nat} (h : s < T) (hl : isL t s = true) : s < enW t T s := by
  unfold enW
  rw [show T - s = (T - s - 1) + 1 by omega, skF, if_pos hl]
  have := skF_ge (b := isL t) (T - s - 1) (s + 1)
  omega
theorem enD_gt {t : Nat → Int32} {T s : Nat} (h : s < T) (hl : isD t s = true) : s < enD t T s := by
  unfold enD
  rw [show T - s = (T - s - 1) + 1 by omega, skF, if_pos hl]
  have := skF_ge (b := isD t) (T - s - 1) (s + 1)
  omega
/-- a token that isn't the end goes on -/
theorem tkE_gt {t : Nat → Int32} {T p : Nat} (h : p ≤ T) (hk : ¬ tkK t T p = 22) : p < tkE t T p := by
  have h1 := tkS_le (t := t) h
  have hs : ¬ tkS t T p = T := fun e => hk (by unfold tkK; rw [if_pos e])
  unfold tkE
  rw [if_neg hs]
  split
  · have := enW_gt (t := t) (T := T) (s := tkS t T p) (by omega) (by assumption); omega
  · split
    · have := enD_gt (t := t) (T := T) (s := tkS t T p) (by omega) (by assumption); omega
    · omega
/-- what a number must be -/
def numS (t : Nat → Int32) (T p : Nat) (lo hi : Int32) : Prop := tkK t T p = 20 ∧ lo ≤ tkV t T p ∧ tkV t T p ≤ hi
noncomputable def perS (t : Nat → Int32) (T p : Nat) (w lo hi so : Int32) : Nat ⊕ (Int32 × Nat) :=
  if tkK t T p = w then (if tkK t T (tkE t T p) = 20 ∧ lo ≤ tkV t T (tkE t T p) ∧ tkV t T (tkE t T p) ≤ hi then .inr (tkV t T (tkE t T p), tkE t T (tkE t T p)) else .inl (tkE t T p)) else .inr (so, p)
/-- an item at p, with n people: a fault's place, or the new row and the place behind it -/
noncomputable def perI (t : Nat → Int32) (T n : Nat) (m : Nat → Int32) (p : Nat) : Nat ⊕ ((Nat → Int32) × Nat) :=
  if n = 8 then .inl p else match perS t T (tkE t T p) 6 0 99 20 with
  | .inl q => .inl q
  | .inr (g, p2) => match perS t T p2 7 0 (nI n) (-1) with
    | .inl q => .inl q
    | .inr (w, p3) => .inr (newP m n (tkK t T p) g w, p3)
noncomputable def griI (t : Nat → Int32) (T n : Nat) (m : Nat → Int32) (p : Nat) : Nat ⊕ ((Nat → Int32) × Nat) :=
  if tkK t T p = 20 then (match pIx n (tkV t T p) with
    | none => .inl p
    | some P => if pv m P 2 < 0 then .inl p else .inr (groundM m P, tkE t T p)) else .inl p
noncomputable def upI (t : Nat → Int32) (T n : Nat) (m : Nat → Int32) (p : Nat) (v : Int32) : Nat ⊕ ((Nat → Int32) × Nat) :=
  if tkK t T p = 20 then (match pIx n (tkV t T p) with
    | none => .inl p
    | some P => .inr (pu m P 3 v, tkE t T p)) else .inl p
noncomputable def itemS (t : Nat → Int32) (T n : Nat) (m : Nat → Int32) (p : Nat) : Nat ⊕ ((Nat → Int32) × Nat) :=
  if tkK t T p ≤ 5 then perI t T n m p else if tkK t T p = 8 then griI t T n m (tkE t T p) else if tkK t T p = 9 then upI t T n m (tkE t T p) 1 else if tkK t T p = 10 then upI t T n m (tkE t T p) 0 else .inl p
/-- the text from the item at p on, the k-th: a fault's place, or the new row and how many items -/
noncomputable def parF (t : Nat → Int32) (T : Nat) : Nat → Nat → Nat → (Nat → Int32) → Nat → Nat ⊕ ((Nat → Int32) × Nat)
  | 0, _, _, _, p => .inl p
  | f + 1, k, n, m, p => match itemS t T n m p with
    | .inl q => .inl q
    | .inr (m', p') => if tkK t T p' = 21 then parF t T f (k + 1) (m' 1).toNatClampNeg m' (tkE t T p') else if tkK t T p' = 22 then .inr (m', k) else .inl p'
noncomputable def S_quay (t : Nat → Int32) (T n : Nat) (m : Nat → Int32) : Int32 := match parF t T 121 1 n m 0 with
  | .inl q => -1 - nI (tkS t T q)
  | .inr (_, k) => nI k
noncomputable def M_quay (t : Nat → Int32) (T n : Nat) (m : Nat → Int32) : Nat → Int32 := match parF t T 121 1 n m 0 with
  | .inl _ => m
  | .inr (m', _) => m'
/-! the model's ints as a list: isKept, taped, token, begin, at, value, bad -/
def iv (l : List Int32) (k : Nat) : Int32 := l.getD k 0
section IV
variable {X : Gx} {S : CS} {a0 a1 a2 a3 a4 a5 a6 : Int32} {m : Nat → Int32} {r : Nat → Nat → Int32} {c : Nat → Int64}
theorem hp_47v : hp X S (iv [a0, a1, a2, a3, a4, a5, a6], m, r, c) 47 = .inr (5, [.ref (ga X 48), .ref (ga X 49), .ref (ga X 50), .int a0, .ref (ga X 51), .ref (ga X 52), .int a1, .int a2, .int a3, .int a4, .int a5, .int a6, .ref (ga X 53), .ref (ga X 54), .ref (ga X 55)]) := rfl
theorem hpv_0 (v : Int32) : va_up (hp X S (iv [a0, a1, a2, a3, a4, a5, a6], m, r, c)) 47 (.inr (5, ([.ref (ga X 48), .ref (ga X 49), .ref (ga X 50), .int a0, .ref (ga X 51), .ref (ga X 52), .int a1, .int a2, .int a3, .int a4, .int a5, .int a6, .ref (ga X 53), .ref (ga X 54), .ref (ga X 55)] : List Value).set 3 (.int v))) = hp X S (iv [v, a1, a2, a3, a4, a5, a6], m, r, c) := by
  funext k
  by_cases h : k = 47
  · subst h
    rfl
  · simp only [va_up_ne _ _ h, hp, mcell, if_neg h]
theorem hpv_1 (v : Int32) : va_up (hp X S (iv [a0, a1, a2, a3, a4, a5, a6], m, r, c)) 47 (.inr (5, ([.ref (ga X 48), .ref (ga X 49), .ref (ga X 50), .int a0, .ref (ga X 51), .ref (ga X 52), .int a1, .int a2, .int a3, .int a4, .int a5, .int a6, .ref (ga X 53), .ref (ga X 54), .ref (ga X 55)] : List Value).set 6 (.int v))) = hp X S (iv [a0, v, a2, a3, a4, a5, a6], m, r, c) := by
  funext k
  by_cases h : k = 47
  · subst h
    rfl
  · simp only [va_up_ne _ _ h, hp, mcell, if_neg h]
theorem hpv_2 (v : Int32) : va_up (hp X S (iv [a0, a1, a2, a3, a4, a5, a6], m, r, c)) 47 (.inr (5, ([.ref (ga X 48), .ref (ga X 49), .ref (ga X 50), .int a0, .ref (ga X 51), .ref (ga X 52), .int a1, .int a2, .int a3, .int a4, .int a5, .int a6, .ref (ga X 53), .ref (ga X 54), .ref (ga X 55)] : List Value).set 7 (.int v))) = hp X S (iv [a0, a1, v, a3, a4, a5, a6], m, r, c) := by
  funext k
  by_cases h : k = 47
  · subst h
    rfl
  · simp only [va_up_ne _ _ h, hp, mcell, if_neg h]
theorem hpv_3 (v : Int32) : va_up (hp X S (iv [a0, a1, a2, a3, a4, a5, a6], m, r, c)) 47 (.inr (5, ([.ref (ga X 48), .ref (ga X 49), .ref (ga X 50), .int a0, .ref (ga X 51), .ref (ga X 52), .int a1, .int a2, .int a3, .int a4, .int a5, .int a6, .ref (ga X 53), .ref (ga X 54), .ref (ga X 55)] : List Value).set 8 (.int v))) = hp X S (iv [a0, a1, a2, v, a4, a5, a6], m, r, c) := by
  funext k
  by_cases h : k = 47
  · subst h
    rfl
  · simp only [va_up_ne _ _ h, hp, mcell, if_neg h]
theorem hpv_4 (v : Int32) : va_up (hp X S (iv [a0, a1, a2, a3, a4, a5, a6], m, r, c)) 47 (.inr (5, ([.ref (ga X 48), .ref (ga X 49), .ref (ga X 50), .int a0, .ref (ga X 51), .ref (ga X 52), .int a1, .int a2, .int a3, .int a4, .int a5, .int a6, .ref (ga X 53), .ref (ga X 54), .ref (ga X 55)] : List Value).set 9 (.int v))) = hp X S (iv [a0, a1, a2, a3, v, a5, a6], m, r, c) := by
  funext k
  by_cases h : k = 47
  · subst h
    rfl
  · simp only [va_up_ne _ _ h, hp, mcell, if_neg h]
theorem hpv_5 (v : Int32) : va_up (hp X S (iv [a0, a1, a2, a3, a4, a5, a6], m, r, c)) 47 (.inr (5, ([.ref (ga X 48), .ref (ga X 49), .ref (ga X 50), .int a0, .ref (ga X 51), .ref (ga X 52), .int a1, .int a2, .int a3, .int a4, .int a5, .int a6, .ref (ga X 53), .ref (ga X 54), .ref (ga X 55)] : List Value).set 10 (.int v))) = hp X S (iv [a0, a1, a2, a3, a4, v, a6], m, r, c) := by
  funext k
  by_cases h : k = 47
  · subst h
    rfl
  · simp only [va_up_ne _ _ h, hp, mcell, if_neg h]
theorem hpv_6 (v : Int32) : va_up (hp X S (iv [a0, a1, a2, a3, a4, a5, a6], m, r, c)) 47 (.inr (5, ([.ref (ga X 48), .ref (ga X 49), .ref (ga X 50), .int a0, .ref (ga X 51), .ref (ga X 52), .int a1, .int a2, .int a3, .int a4, .int a5, .int a6, .ref (ga X 53), .ref (ga X 54), .ref (ga X 55)] : List Value).set 11 (.int v))) = hp X S (iv [a0, a1, a2, a3, a4, a5, v], m, r, c) := by
  funext k
  by_cases h : k = 47
  · subst h
    rfl
  · simp only [va_up_ne _ _ h, hp, mcell, if_neg h]
end IV
theorem iv_of {X : Gx} {S : CS} (i m : Nat → Int32) (r : Nat → Nat → Int32) (c : Nat → Int64) : hp X S (i, m, r, c) = hp X S (iv [i 0, i 1, i 2, i 3, i 4, i 5, i 6], m, r, c) := rfl
