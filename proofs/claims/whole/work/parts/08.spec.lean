/-! ===== what both sides compute: a person's vector v: 0 kind 1 grudge 2 at 3 up 4 shows 5 power 6 worn; k its number ===== -/
theorem vp_l {i : Int32} {n : Nat} (h : ¬ (i < 0 ∨ n ≤ i.toNatClampNeg)) : vp_in i n := h
theorem iinc_m1 (x : Int32) : x + Int32.ofInt (-1) = x + (-1) := by
  rw [show Int32.ofInt (-1) = -1 by decide]
theorem fa_lt (a b : Int32) : a < b ↔ a.toInt < b.toInt := Int32.lt_iff_toInt_lt
theorem fa_le (a b : Int32) : a ≤ b ↔ a.toInt ≤ b.toInt := Int32.le_iff_toInt_le
theorem fa_eq (a b : Int32) : a = b ↔ a.toInt = b.toInt := Int32.toInt_inj.symm
theorem fa_lt64 (a b : Int64) : a < b ↔ a.toInt < b.toInt := Int64.lt_iff_toInt_lt
theorem fa_le64 (a b : Int64) : a ≤ b ↔ a.toInt ≤ b.toInt := Int64.le_iff_toInt_le
theorem fa_wide_le (a b : Int32) : a.toInt64 ≤ b.toInt64 ↔ a ≤ b := by rw [fa_le64, fa_le, Int32.toInt_toInt64, Int32.toInt_toInt64]
theorem fa_wide_lt (a b : Int32) : a.toInt64 < b.toInt64 ↔ a < b := by rw [fa_lt64, fa_lt, Int32.toInt_toInt64, Int32.toInt_toInt64]
def held (v a b : Int32) : Int32 := if v < a then a else if b < v then b else v
def plainF (v : Nat → Int32) (o : Int32) : Int32 := if o = v 4 then held (v 5 - v 6) 0 99 else v 6 / 2
def broF (k : Int32) (v : Nat → Int32) (o : Int32) : Int32 := plainF v o + (if o = k + 1 then 5 else 0)
def briF (k : Int32) (v : Nat → Int32) (o : Int32) : Int32 := if o < k then 2 * plainF v o else plainF v o
def lookF (k : Int32) (v : Nat → Int32) (o : Int32) : Int32 := if v 3 = 1 then 50 else if v 0 = 1 then broF k v o else if v 0 = 2 then briF k v o else if v 0 = 3 then 10 else if v 0 = 4 then broF k v o + (if k = o + 1 then 5 else 0) else if v 0 = 5 then (if briF k v o < 5 then 5 else briF k v o) else plainF v o
def sightF (k : Int32) (v : Nat → Int32) : Int32 := if v 2 < 0 then 0 else lookF k v (v 2)
def easeP (k : Int32) (v : Nat → Int32) : Int32 := if sightF k v < 30 then 1 else 0
def easeF (k : Int32) (v : Nat → Int32) : Int32 := if v 0 = 1 then (if 50 < v 1 then 0 else easeP k v) else if v 0 = 2 then 2 * easeP k v else if v 0 = 3 then 3 else if v 0 = 4 then (if 50 < v 1 then 0 else easeP k v) else if v 0 = 5 then 2 * easeP k v + v 3 else easeP k v
def growP (s : Int32) : Int32 := if s < 60 then 0 else 1
def growB (s : Int32) : Int32 := growP s + (if s < 80 then 0 else 1)
def growF (k : Int32) (v : Nat → Int32) : Int32 := if v 0 = 1 then growB (sightF k v) else if v 0 = 3 then 0 else if v 0 = 4 then 2 * growB (sightF k v) else growP (sightF k v)
def grindF (v : Nat → Int32) : Int32 := held (if v 0 = 1 then v 1 + 10 else if v 0 = 2 then v 1 / 2 else if v 0 = 3 then 0 else if v 0 = 4 then v 1 + 20 else if v 0 = 5 then v 1 / 2 + 20 else v 1) 0 99
def dayG (k : Int32) (v : Nat → Int32) : Int32 := held (v 1 + growF k v - easeF k v) 0 99
def dayW (k : Int32) (v : Nat → Int32) : Int32 := held (v 6 + (if v 3 = 0 ∧ dayG k v < v 5 then 1 else 0)) 0 99
def dayF (k : Int32) (v : Nat → Int32) : Nat → Int32 := upd (upd v 1 (dayG k v)) 6 (dayW k v)
/-- the model's row m: person p's vector -/
def pv (m : Nat → Int32) (p : Nat) : Nat → Int32 := fun j => if j < 7 then m (2 + 7 * p + j) else 0
theorem pv_lt {m : Nat → Int32} {p j : Nat} (h : j < 7) : pv m p j = m (2 + 7 * p + j) := if_pos h
def pu (m : Nat → Int32) (p w : Nat) (v : Int32) : Nat → Int32 := upd m (2 + 7 * p + w) v
theorem pv_pu {m : Nat → Int32} {p w : Nat} {v : Int32} (hw : w < 7) : pv (pu m p w v) p = upd (pv m p) w v := by
  funext j
  simp only [pv, pu, upd]
  by_cases h : j = w
  · subst h; simp [hw]
  · rw [if_neg (show ¬ 2 + 7 * p + j = 2 + 7 * p + w by omega), if_neg h]
theorem pv_ne {m : Nat → Int32} {p p' w : Nat} {v : Int32} (hw : w < 7) (h : p ≠ p') : pv (pu m p w v) p' = pv m p' := by
  funext j
  simp only [pv, pu, upd]
  by_cases hj : j < 7
  · rw [if_pos hj, if_pos hj, if_neg (by omega)]
  · rw [if_neg hj, if_neg hj]
theorem pu_1 {m : Nat → Int32} {p w : Nat} {v : Int32} : pu m p w v 1 = m 1 := by
  simp only [pu, upd]
  rw [if_neg (by omega)]
theorem pu_0 {m : Nat → Int32} {p w : Nat} {v : Int32} : pu m p w v 0 = m 0 := by
  simp only [pu, upd]
  rw [if_neg (by omega)]
/-- loops that count up -/
theorem v_up {Pr : Nat → Prop} (n : Nat) (h0 : Pr n) (hs : ∀ j, j < n → Pr (j + 1) → Pr j) : ∀ j, j ≤ n → Pr j := by
  have key : ∀ d j, j + d = n → Pr j := by
    intro d
    induction d with
    | zero => intro j h; have : j = n := by omega
              subst this; exact h0
    | succ d ih => intro j h; exact hs j (by omega) (ih (j + 1) (by omega))
  intro j hj
  exact key (n - j) j (by omega)
theorem v_em {l : Launch} {X : Gx} {R : Room} {C : Cx} {f : Hp} {pc : Nat} {lv : Lv} {st : List Value} {x : Int32} (c : Int32) (h1 : x = c → V l X R C f pc lv (.int c :: st)) (h2 : ¬ x = c → V l X R C f pc lv (.int x :: st)) : V l X R C f pc lv (.int x :: st) := by
  by_cases h : x = c
  · have := h1 h; rw [← h] at this; exact this
  · exact h2 h
theorem v_same {l : Launch} {X : Gx} {R : Room} {C : Cx} {f f' : Hp} {pc : Nat} {lv lv' : Lv} {st st' : List Value} (h1 : f = f') (h2 : lv = lv') (h3 : st = st') (h : V l X R C f' pc lv' st') : V l X R C f pc lv st := by
  subst h1; subst h2; subst h3; exact h
/-- folds of both sides -/
def bitI (o : Nat) : Int32 := 1 <<< (nI o &&& 31)
def seesF (k : Int32) (w : Nat → Int32) (v : Int32) : Nat → Int32
  | 0 => 0
  | o + 1 => seesF k w v o ||| (if ¬ nI o = k ∧ v ≤ lookF k w (nI o) then bitI o else 0)
def seenF (g : Nat → Nat → Int32) (n : Nat) : Nat → Int32
  | 0 => 0
  | p + 1 => seenF g n p ||| seesF (nI p) (g p) 30 n
def sumF (g : Nat → Nat → Int32) (w : Nat) : Nat → Int32
  | 0 => 0
  | p + 1 => sumF g w p + g p w
def withF (g : Nat → Nat → Int32) (w : Nat) (v : Int32) : Nat → Int32
  | 0 => 0
  | p + 1 => withF g w v p ||| (if g p w = v then bitI p else 0)
/-- a day of the model's row: the people below n, one by one; then the day -/
def goK (m : Nat → Int32) (p : Nat) : Nat → Int32 := pu (pu m p 1 (dayG (nI p) (pv m p))) p 6 (dayW (nI p) (pv m p))
def goP (m : Nat → Int32) : Nat → Nat → Int32
  | 0 => m
  | p + 1 => goK (goP m p) p
def goM (n : Nat) (m : Nat → Int32) : Nat → Int32 := upd (goP m n) 0 (goP m n 0 + 1)
def goN (n : Nat) (m : Nat → Int32) : Nat → Nat → Int32
  | 0 => m
  | k + 1 => goM n (goN n m k)
theorem goK_1 {m : Nat → Int32} {p : Nat} : goK m p 1 = m 1 := by rw [goK, pu_1, pu_1]
theorem goP_1 {m : Nat → Int32} : ∀ p, goP m p 1 = m 1
  | 0 => rfl
  | p + 1 => by rw [goP, goK_1, goP_1 p]
theorem goM_1 {n : Nat} {m : Nat → Int32} : goM n m 1 = m 1 := by
  rw [goM]
  simp only [upd]
  rw [if_neg (by decide)]
  exact goP_1 n
theorem goN_1 {n : Nat} {m : Nat → Int32} : ∀ k, goN n m k 1 = m 1
  | 0 => rfl
  | k + 1 => by rw [goN, goM_1, goN_1 k]
def swapM (m : Nat → Int32) (p o w : Nat) : Nat → Int32 := pu (pu m p w (pv m o w)) o w (pv m p w)
/-- rows that agree as far as they are long -/
def cEq (a b : va_E) : Prop := a = b ∨ (∃ (cA : ClassId) (n : Nat) (g h : Nat → Int32), a = .inl (cA, n, .inl g) ∧ b = .inl (cA, n, .inl h) ∧ ∀ j, j < n → g j = h j) ∨ (∃ (cA : ClassId) (n : Nat) (g h : Nat → Int64), a = .inl (cA, n, .inr (.inl g)) ∧ b = .inl (cA, n, .inr (.inl h)) ∧ ∀ j, j < n → g j = h j)
theorem arrV_congr {cA : ClassId} {n : Nat} {g h : Nat → Value} (e : ∀ j, j < n → g j = h j) : arrV cA n g = arrV cA n h := by
  have : (List.range n).map g = (List.range n).map h := List.map_congr_left (fun j hj => e j (List.mem_range.mp hj))
  unfold arrV
  first
    | (simp only [this]; done)
    | (congr 1; apply Array.ext <;> simp_all)
theorem v_cong {l : Launch} {X : Gx} {R : Room} {C : Cx} {f g : Hp} {pc : Nat} {lv : Lv} {st : List Value} (h : ∀ k, k < 56 → cEq (f k) (g k)) (k : V l X R C g pc lv st) : V l X R C f pc lv st := by
  obtain ⟨p, e, s, m, args, below, meth, c, nL, Q, kc, ks⟩ := C
  intro H locs ls hP hS hl
  refine k H locs ls ?_ hS hl
  intro j q hj
  have lj := (List.getElem?_eq_some_iff.mp hj).1
  rw [gw_len] at lj
  rw [gw_at lj] at hj
  cases hj
  have hp := hP j _ (gw_at lj)
  rcases h j lj with e | ⟨cA, n, g1, h1, e1, e2, e3⟩ | ⟨cA, n, g1, h1, e1, e2, e3⟩
  · rw [← e]; exact hp
  · rw [e1] at hp
    rw [e2]
    have e4 : vp_cell cA (n, .inl g1) = vp_cell cA (n, .inl h1) := by
      rw [vp_cell_i, vp_cell_i]
      exact arrV_congr (fun j hj => by rw [e3 j hj])
    show H[ga X j]? = some (vp_cell cA (n, .inl h1))
    rw [← e4]
    exact hp
  · rw [e1] at hp
    rw [e2]
    have e4 : vp_cell cA (n, .inr (.inl g1)) = vp_cell cA (n, .inr (.inl h1)) := by
      rw [vp_cell_l, vp_cell_l]
      exact arrV_congr (fun j hj => by rw [e3 j hj])
    show H[ga X j]? = some (vp_cell cA (n, .inr (.inl h1)))
    rw [← e4]
    exact hp
