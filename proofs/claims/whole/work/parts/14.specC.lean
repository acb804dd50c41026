/-! ===== one person's days; searches; the best ===== -/
def itD (k : Int32) (v : Nat → Int32) : Nat → Nat → Int32
  | 0 => v
  | j + 1 => dayF k (itD k v j)
theorem pv_goK {m : Nat → Int32} {p : Nat} : pv (goK m p) p = dayF (nI p) (pv m p) := by
  rw [goK, pv_pu (by decide), pv_pu (by decide), dayF]
theorem pv_goK_ne {m : Nat → Int32} {p q : Nat} (h : q ≠ p) : pv (goK m q) p = pv m p := by
  rw [goK, pv_ne (by decide) h, pv_ne (by decide) h]
theorem pv_goP {m : Nat → Int32} {p : Nat} : ∀ j, pv (goP m j) p = if p < j then dayF (nI p) (pv m p) else pv m p
  | 0 => rfl
  | j + 1 => by
    rw [goP]
    by_cases h : j = p
    · subst h
      rw [pv_goK, pv_goP j, if_neg (Nat.lt_irrefl _), if_pos (Nat.lt_succ_self _)]
    · rw [pv_goK_ne h, pv_goP j]
      by_cases h2 : p < j
      · rw [if_pos h2, if_pos (by omega)]
      · rw [if_neg h2, if_neg (by omega)]
theorem pv_up0 {m : Nat → Int32} {p : Nat} {x : Int32} : pv (upd m 0 x) p = pv m p := by
  funext j
  simp only [pv, upd]
  by_cases h : j < 7
  · rw [if_pos h, if_pos h, if_neg (by omega)]
  · rw [if_neg h, if_neg h]
theorem pv_goM {m : Nat → Int32} {n p : Nat} (h : p < n) : pv (goM n m) p = dayF (nI p) (pv m p) := by
  rw [goM, pv_up0, pv_goP, if_pos h]
theorem pv_goN {m : Nat → Int32} {n p : Nat} (h : p < n) : ∀ j, pv (goN n m j) p = itD (nI p) (pv m p) j
  | 0 => rfl
  | j + 1 => by rw [goN, pv_goM h, pv_goN h j, itD]
theorem goP_0 {m : Nat → Int32} : ∀ p, goP m p 0 = m 0
  | 0 => rfl
  | p + 1 => by rw [goP, goK, pu_0, pu_0, goP_0 p]
theorem goM_0 {n : Nat} {m : Nat → Int32} : goM n m 0 = m 0 + 1 := by
  rw [goM, goP_0]
  simp [upd]
theorem seesF_congr {k v : Int32} {w w' : Nat → Int32} (h : w = w') (n : Nat) : seesF k w v n = seesF k w' v n := by rw [h]
theorem seenF_congr {g g' : Nat → Nat → Int32} {n : Nat} : ∀ k, (∀ p, p < k → g p = g' p) → seenF g n k = seenF g' n k
  | 0, _ => rfl
  | k + 1, h => by rw [seenF, seenF, seenF_congr k (fun p hp => h p (by omega)), h k (by omega)]
theorem sumF_congr {g g' : Nat → Nat → Int32} {w : Nat} : ∀ k, (∀ p, p < k → g p = g' p) → sumF g w k = sumF g' w k
  | 0, _ => rfl
  | k + 1, h => by rw [sumF, sumF, sumF_congr k (fun p hp => h p (by omega)), h k (by omega)]
theorem withF_congr {g g' : Nat → Nat → Int32} {w : Nat} {v : Int32} : ∀ k, (∀ p, p < k → g p = g' p) → withF g w v k = withF g' w v k
  | 0, _ => rfl
  | k + 1, h => by rw [withF, withF, withF_congr k (fun p hp => h p (by omega)), h k (by omega)]
/-- the first place, from j on, at most d of them -/
def fstN (b : Nat → Bool) : Nat → Nat → Option Nat
  | 0, _ => none
  | d + 1, j => if b j then some j else fstN b d (j + 1)
theorem fstN_congr {b b' : Nat → Bool} : ∀ d j, (∀ k, j ≤ k → k < j + d → b k = b' k) → fstN b d j = fstN b' d j
  | 0, _, _ => rfl
  | d + 1, j, h => by rw [fstN, fstN, h j (by omega) (by omega), fstN_congr d (j + 1) (fun k h1 h2 => h k (by omega) (by omega))]
theorem fstN_lt {b : Nat → Bool} : ∀ d j k, fstN b d j = some k → j ≤ k ∧ k < j + d
  | 0, _, _, h => by cases h
  | d + 1, j, k, h => by
    rw [fstN] at h
    split at h
    · cases h; omega
    · have := fstN_lt d (j + 1) k h; omega
def m1N : Option Nat → Int32
  | none => -1
  | some k => nI k
def orN : Option Nat → An
  | none => .inl 3
  | some k => .inr (nI k)
def easB (k : Int32) (v : Nat → Int32) (j : Nat) : Bool := decide (itD k v j 1 ≤ 0)
theorem eas_ex : ∃ f : (Int32) → (Nat → Int32) → Option Nat, ∀ k v, f k v = fstN (easB k v) 201 0 := ⟨fun k v => fstN (easB k v) 201 0, fun k v => rfl⟩
noncomputable def eas : (Int32) → (Nat → Int32) → Option Nat := Classical.choose eas_ex
theorem eas_eq (k : Int32) (v : Nat → Int32) : eas k v = fstN (easB k v) 201 0 := Classical.choose_spec eas_ex k v
def wrnB (k : Int32) (v : Nat → Int32) (j : Nat) : Bool := decide (itD k v j 5 ≤ itD k v j 6)
def unsB (n : Nat) (g : Nat → Nat → Int32) (p : Nat) (j : Nat) : Bool := decide (¬ (seenF (fun q => itD (nI q) (g q) j) n n >>> (nI p &&& 31)) &&& 1 = 1)
theorem wrn_ex : ∃ f : (Int32) → (Nat → Int32) → Option Nat, ∀ k v, f k v = fstN (wrnB k v) 201 0 := ⟨fun k v => fstN (wrnB k v) 201 0, fun k v => rfl⟩
noncomputable def wrn : (Int32) → (Nat → Int32) → Option Nat := Classical.choose wrn_ex
theorem wrn_eq (k : Int32) (v : Nat → Int32) : wrn k v = fstN (wrnB k v) 201 0 := Classical.choose_spec wrn_ex k v
theorem uns_ex : ∃ f : (Nat) → (Nat → Nat → Int32) → (Nat) → Option Nat, ∀ n g p, f n g p = fstN (unsB n g p) 201 0 := ⟨fun n g p => fstN (unsB n g p) 201 0, fun n g p => rfl⟩
noncomputable def uns : (Nat) → (Nat → Nat → Int32) → (Nat) → Option Nat := Classical.choose uns_ex
theorem uns_eq (n : Nat) (g : Nat → Nat → Int32) (p : Nat) : uns n g p = fstN (unsB n g p) 201 0 := Classical.choose_spec uns_ex n g p
def S_on (n : Nat) (g : Nat → Nat → Int32) (p k w : Int32) : An := match pIx n p with
  | none => .inl 0
  | some P => if (0 ≤ k ∧ k ≤ 200) ∧ (0 ≤ w ∧ w ≤ 1) then .inr (itD (nI P) (g P) k.toNatClampNeg (if w = 0 then 1 else 6)) else .inl 0
def S_then (n : Nat) (g : Nat → Nat → Int32) (p q k : Int32) : An := match pTw n p q with
  | none => .inl 0
  | some (P, _) => if 0 ≤ k ∧ k ≤ 200 then .inr (lookF (nI P) (itD (nI P) (g P) k.toNatClampNeg) q) else .inl 0
noncomputable def S_forgives (n : Nat) (g : Nat → Nat → Int32) (p : Int32) : An := match pIx n p with
  | none => .inl 0
  | some P => orN (eas (nI P) (g P))
noncomputable def S_worn (n : Nat) (g : Nat → Nat → Int32) (p : Int32) : An := match pIx n p with
  | none => .inl 0
  | some P => orN (wrn (nI P) (g P))
noncomputable def S_unseen (n : Nat) (g : Nat → Nat → Int32) (p : Int32) : An := match pIx n p with
  | none => .inl 0
  | some P => orN (uns n g P)
/-- the least of e over the places below k that may be: (its value, 201 if none; the place) -/
def bstF (e : Nat → Nat) (may : Nat → Bool) (s0 : Nat) : Nat → Nat × Option Nat
  | 0 => (s0, none)
  | k + 1 => if may k && decide (e k < (bstF e may s0 k).1) then (e k, some k) else bstF e may s0 k
noncomputable def easN (k : Int32) (v : Nat → Int32) : Nat := (eas k v).getD 201
def vsw (v w : Nat → Int32) : Nat → Int32 := upd (upd (upd v 4 (w 4)) 5 (w 5)) 6 (w 6)
noncomputable def S_borrow (n : Nat) (g : Nat → Nat → Int32) (p : Int32) : An := match pIx n p with
  | none => .inl 0
  | some P => orN (bstF (fun o => easN (nI P) (vsw (g P) (g o))) (fun o => decide (¬ o = P)) (easN (nI P) (g P)) n).2
theorem knd_ex : ∃ f : (Int32) → (Nat → Int32) → Option Nat, ∀ k v, f k v = (bstF (fun o => easN k (upd v 0 (nI o))) (fun _ => true) 201 6).2 := ⟨fun k v => (bstF (fun o => easN k (upd v 0 (nI o))) (fun _ => true) 201 6).2, fun k v => rfl⟩
noncomputable def knd : (Int32) → (Nat → Int32) → Option Nat := Classical.choose knd_ex
theorem knd_eq (k : Int32) (v : Nat → Int32) : knd k v = (bstF (fun o => easN k (upd v 0 (nI o))) (fun _ => true) 201 6).2 := Classical.choose_spec knd_ex k v
noncomputable def S_kind (n : Nat) (g : Nat → Nat → Int32) (p : Int32) : An := match pIx n p with
  | none => .inl 0
  | some P => orN (knd (nI P) (g P))
def leaF (e : Nat → Int32) : Nat → Int32 × Nat
  | 0 => (100, 0)
  | k + 1 => if e k < (leaF e k).1 then (e k, k) else leaF e k
def S_better (n : Nat) (g : Nat → Nat → Int32) (p k : Int32) : An := match pIx n p with
  | none => .inl 0
  | some P => if 1 ≤ k ∧ k ≤ 60 then .inr (nI (leaF (fun t => itD (nI P) (upd (g P) 2 (nI t - 1)) k.toNatClampNeg 1) (n + 1)).2) else .inl 0
/-- the greatest below d -/
def grtF (b : Nat → Bool) : Nat → Option Nat
  | 0 => none
  | d + 1 => if b d then some d else grtF b d
theorem mst_ex : ∃ f : (Int32) → (Nat → Int32) → (Nat) → Option Nat, ∀ k v N, f k v N = grtF (fun x => decide (itD k (upd v 1 (nI x)) N 1 = 0)) 100 := ⟨fun k v N => grtF (fun x => decide (itD k (upd v 1 (nI x)) N 1 = 0)) 100, fun k v N => rfl⟩
noncomputable def mst : (Int32) → (Nat → Int32) → (Nat) → Option Nat := Classical.choose mst_ex
theorem mst_eq (k : Int32) (v : Nat → Int32) (N : Nat) : mst k v N = grtF (fun x => decide (itD k (upd v 1 (nI x)) N 1 = 0)) 100 := Classical.choose_spec mst_ex k v N
noncomputable def S_most (n : Nat) (g : Nat → Nat → Int32) (p k : Int32) : An := match pIx n p with
  | none => .inl 0
  | some P => if 1 ≤ k ∧ k ≤ 60 then orN (mst (nI P) (g P) k.toNatClampNeg) else .inl 0
def allF (k : Int32) (v : Nat → Int32) : Nat → Int32
  | 0 => 0
  | o + 1 => allF k v o + (if nI o = k then 0 else lookF k v (nI o))
def shaF (e : Nat → Int32) : Nat → Int32 × Option Nat
  | 0 => (-1, none)
  | p + 1 => if (shaF e p).1 < e p then (e p, some p) else shaF e p
def S_sharpest (n : Nat) (g : Nat → Nat → Int32) (k : Int32) : An := if 0 ≤ k ∧ k ≤ 100 then orN (shaF (fun p => allF (nI p) (itD (nI p) (g p) k.toNatClampNeg) n) n).2 else .inl 0

def enS (s : Nat) : Int32 := if s < 201 then nI s else -1
theorem m1N_eas {k : Int32} {v : Nat → Int32} : m1N (eas k v) = enS (easN k v) := by
  unfold easN
  cases h : eas k v with
  | none => rfl
  | some j =>
    have := fstN_lt _ _ _ ((eas_eq k v).symm.trans h)
    simp only [m1N, Option.getD_some, enS]
    rw [if_pos (by omega)]
theorem easN_le {k : Int32} {v : Nat → Int32} : easN k v ≤ 201 := by
  unfold easN
  cases h : eas k v with
  | none => simp
  | some j =>
    have := fstN_lt _ _ _ ((eas_eq k v).symm.trans h)
    simp only [Option.getD_some]
    omega
theorem enS_neg {s : Nat} : enS s < 0 ↔ ¬ s < 201 := by
  unfold enS
  by_cases h : s < 201
  · rw [if_pos h]
    constructor
    · intro z; exact absurd z (nI_pos (by omega))
    · intro z; exact absurd h z
  · rw [if_neg h]
    exact ⟨fun _ => h, fun _ => by decide⟩
theorem isb {x s : Nat} (hx : x ≤ 201) (hs : s ≤ 201) : (¬ enS x < 0 ∧ (enS s < 0 ∨ enS x < enS s)) ↔ x < s := by
  rw [enS_neg, enS_neg]
  constructor
  · rintro ⟨h1, h2⟩
    have h1 : x < 201 := Decidable.not_not.mp h1
    rcases h2 with h2 | h2
    · omega
    · by_cases h3 : s < 201
      · unfold enS at h2
        rw [if_pos h1, if_pos h3] at h2
        exact (nI_ltI (by omega) (by omega)).mp h2
      · omega
  · intro h
    refine ⟨fun z => z (by omega), ?_⟩
    by_cases h3 : s < 201
    · right
      unfold enS
      rw [if_pos (by omega), if_pos h3]
      exact (nI_ltI (by omega) (by omega)).mpr h
    · exact Or.inl h3
theorem bst_take {e : Nat → Nat} {may : Nat → Bool} {s0 k : Nat} (h1 : may k = true) (h2 : e k < (bstF e may s0 k).1) : bstF e may s0 (k + 1) = (e k, some k) := by
  rw [bstF, h1]; simp [h2]
theorem bst_keep {e : Nat → Nat} {may : Nat → Bool} {s0 k : Nat} (h : ¬ (may k = true ∧ e k < (bstF e may s0 k).1)) : bstF e may s0 (k + 1) = bstF e may s0 k := by
  rw [bstF, if_neg]
  simpa using h
theorem bst_le {e : Nat → Nat} {may : Nat → Bool} {s0 N : Nat} (h0 : s0 ≤ N) (he : ∀ k, e k ≤ N) : ∀ k, (bstF e may s0 k).1 ≤ N
  | 0 => h0
  | k + 1 => by
    rw [bstF]
    split
    · exact he k
    · exact bst_le h0 he k
theorem bst_lt {e : Nat → Nat} {may : Nat → Bool} {s0 : Nat} : ∀ k j, (bstF e may s0 k).2 = some j → j < k
  | 0, j, h => by cases h
  | k + 1, j, h => by
    rw [bstF] at h
    split at h
    · cases h; omega
    · have := bst_lt k j h; omega
theorem swap3_1 {m : Nat → Int32} {p q : Nat} : swap3 m p q 1 = m 1 := by
  simp only [swap3, swapM, pu_1]
theorem pv_swapM {m : Nat → Int32} {p q w : Nat} (hw : w < 7) (h : p ≠ q) : pv (swapM m p q w) p = upd (pv m p) w (pv m q w) := by
  rw [swapM, pv_ne hw (Ne.symm h), pv_pu hw]
theorem pv_swapM' {m : Nat → Int32} {p q w : Nat} (hw : w < 7) (h : p ≠ q) : pv (swapM m p q w) q = upd (pv m q) w (pv m p w) := by
  rw [swapM, pv_pu hw, pv_ne hw h]
theorem pv_swap3 {m : Nat → Int32} {p q : Nat} (h : p ≠ q) : pv (swap3 m p q) p = vsw (pv m p) (pv m q) := by
  rw [swap3, pv_swapM (by decide) h, pv_swapM (by decide) h, pv_swapM' (by decide) h, pv_swapM (by decide) h, pv_swapM' (by decide) h, pv_swapM' (by decide) h, vsw]
  simp [upd]
theorem pv_swap3' {m : Nat → Int32} {p q : Nat} (h : p ≠ q) : pv (swap3 m p q) q = vsw (pv m q) (pv m p) := by
  rw [swap3, pv_swapM' (by decide) h, pv_swapM' (by decide) h, pv_swapM (by decide) h, pv_swapM' (by decide) h, pv_swapM (by decide) h, pv_swapM (by decide) h, vsw]
  simp [upd]
theorem pv_swap3n {m : Nat → Int32} {p q o : Nat} (h : p ≠ o) (h2 : q ≠ o) : pv (swap3 m p q) o = pv m o := by
  simp only [swap3, swapM, pv_ne (show (4 : Nat) < 7 by decide) h, pv_ne (show (5 : Nat) < 7 by decide) h, pv_ne (show (6 : Nat) < 7 by decide) h, pv_ne (show (4 : Nat) < 7 by decide) h2, pv_ne (show (5 : Nat) < 7 by decide) h2, pv_ne (show (6 : Nat) < 7 by decide) h2]

/-! sets of people, by bits -/
def pcN (s : Nat) : Nat := s % 2 + s / 2 % 2 + s / 4 % 2 + s / 8 % 2 + s / 16 % 2 + s / 32 % 2 + s / 64 % 2 + s / 128 % 2
def bitU (up : Int32) (p : Nat) : Bool := decide ((up >>> (nI p &&& 31)) &&& 1 = 1)
def upM (m : Nat → Int32) (up : Int32) : Nat → Nat → Int32
  | 0 => m
  | p + 1 => pu (upM m up p) p 3 (if bitU up p then 1 else pv (upM m up p) p 3)
def upG (g : Nat → Nat → Int32) (up : Int32) (p : Nat) : Nat → Int32 := upd (g p) 3 (if bitU up p then 1 else g p 3)
theorem upM_1 {m : Nat → Int32} {up : Int32} : ∀ k, upM m up k 1 = m 1
  | 0 => rfl
  | k + 1 => by rw [upM, pu_1, upM_1 k]
theorem pv_upM {m : Nat → Int32} {up : Int32} {p : Nat} : ∀ k, pv (upM m up k) p = if p < k then upG (pv m) up p else pv m p
  | 0 => rfl
  | k + 1 => by
    rw [upM]
    by_cases h : k = p
    · subst h
      rw [pv_pu (by decide), pv_upM k, if_neg (Nat.lt_irrefl _), if_pos (Nat.lt_succ_self _), upG]
    · rw [pv_ne (by decide) h, pv_upM k]
      by_cases h2 : p < k
      · rw [if_pos h2, if_pos (by omega)]
      · rw [if_neg h2, if_neg (by omega)]
theorem pv_upMn {m : Nat → Int32} {up : Int32} {p n : Nat} (h : p < n) : pv (upM m up n) p = upG (pv m) up p := by rw [pv_upM, if_pos h]
def allI (n : Nat) : Int32 := 1 <<< (nI n &&& 31) - 1
def okP (n : Nat) (g : Nat → Nat → Int32) (s : Nat) : Bool := decide (seenF (upG g (nI s)) n n = allI n)
def pshF (ok : Nat → Bool) : Nat → Option Nat
  | 0 => none
  | s + 1 => match pshF ok s with
    | none => if ok s then some s else none
    | some b => if decide (pcN s < pcN b) && ok s then some s else some b
theorem pshF_lt {ok : Nat → Bool} : ∀ k j, pshF ok k = some j → j < k
  | 0, j, h => by cases h
  | k + 1, j, h => by
    rw [pshF] at h
    cases e : pshF ok k with
    | none =>
      rw [e] at h
      dsimp only at h
      split at h
      · cases h; omega
      · cases h
    | some b =>
      have := pshF_lt k b e
      rw [e] at h
      dsimp only at h
      split at h
      · cases h; omega
      · cases h; omega
def S_push (n : Nat) (g : Nat → Nat → Int32) : An := if 1 < n then orN (pshF (okP n g) (2 ^ n)) else .inl 3
theorem sh1 : ∀ n : Fin 9, (1 : Int32) <<< (nI n.val &&& 31) = nI (2 ^ n.val) := by decide +kernel
theorem pw8 {n : Nat} (h : n ≤ 8) : 2 ^ n ≤ 256 := by
  have : ∀ n : Fin 9, 2 ^ n.val ≤ 256 := by decide
  exact this ⟨n, by omega⟩
theorem rest_and : ∀ t : Fin 256, nI t.val &&& (nI t.val - 1) = nI (t.val &&& (t.val - 1)) ∧ (t.val ≠ 0 → pcN (t.val &&& (t.val - 1)) + 1 = pcN t.val ∧ t.val &&& (t.val - 1) < t.val) := by decide +kernel
theorem pcN_le : ∀ t : Fin 256, pcN t.val ≤ 8 := by decide +kernel
theorem n8' {n t : Nat} (h : t ≤ n) (h8 : n ≤ 8) : ¬ nI n ≤ nI t - 1 := by
  rw [fa_le, nI_toInt (by omega), n8 ⟨t, by omega⟩]
  show ¬ (n : Int) ≤ (t : Int) - 1
  omega
theorem leaF_lt {e : Nat → Int32} : ∀ k, (leaF e (k + 1)).2 ≤ k
  | 0 => by rw [leaF]; split <;> simp [leaF]
  | k + 1 => by
    rw [leaF]
    split
    · simp
    · have := leaF_lt (e := e) k; omega
theorem shaF_lt {e : Nat → Int32} : ∀ k j, (shaF e k).2 = some j → j < k
  | 0, j, h => by cases h
  | k + 1, j, h => by
    rw [shaF] at h
    split at h
    · cases h; omega
    · have := shaF_lt k j h; omega
theorem grtF_lt {b : Nat → Bool} : ∀ k j, grtF b k = some j → j < k
  | 0, j, h => by cases h
  | k + 1, j, h => by
    rw [grtF] at h
    split at h
    · cases h; omega
    · have := grtF_lt k j h; omega
