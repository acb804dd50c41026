/-! ===== the world: 56 cells at places 0 .. 55, their addresses ga X; a heap is a function of places ===== -/
abbrev Gx : Type := (Nat → Nat) × va_G × (Nat → ClassId) × (Nat → Nat) × (Nat → Nat) × (Nat → Nat)
def ga (X : Gx) (k : Nat) : Nat := X.1 k
def gD (X : Gx) : va_G := X.2.1
def gc (X : Gx) (k : Nat) : ClassId := X.2.2.1 k
def gs (X : Gx) (k : Nat) : Nat := X.2.2.2.1 k
def gK (X : Gx) : Nat → Nat := X.2.2.2.2.1
def gV (X : Gx) : Nat → Nat := X.2.2.2.2.2
abbrev Hp : Type := Nat → va_E
def gw (X : Gx) (f : Hp) : va_W := (List.range 56).map (fun k => (ga X k, f k))
def gA (X : Gx) : Nat → Prop := fun q => ∃ k, k < 56 ∧ ga X k = q
def gty (X : Gx) : List (ClassId × FieldType) := [(gc X 0, .int), (gc X 1, .long), (gc X 2, .object RX0), (gc X 3, .object RX2)]
def gI (X : Gx) : Prop := ∀ i j, i < 56 → j < 56 → ga X i = ga X j → i = j
theorem gw_at {X : Gx} {f : Hp} {k : Nat} (h : k < 56) : (gw X f)[k]? = some (ga X k, f k) := by
  simp [gw, h]
theorem gw_len {X : Gx} {f : Hp} : (gw X f).length = 56 := by simp [gw]
theorem gw_up {X : Gx} {f : Hp} {k : Nat} {e : va_E} : (gw X f).set k (ga X k, e) = gw X (va_up f k e) := by
  apply List.ext_getElem?
  intro j
  by_cases hj : j < 56
  · by_cases e1 : k = j
    · subst e1
      rw [List.getElem?_set_self (by rw [gw_len]; exact hj), gw_at hj]
      simp [va_up]
    · rw [List.getElem?_set_ne e1, gw_at hj, gw_at hj]
      simp [va_up, Ne.symm e1]
  · rw [List.getElem?_eq_none (by rw [List.length_set, gw_len]; omega), List.getElem?_eq_none (by rw [gw_len]; omega)]
theorem gw_D {X : Gx} {f : Hp} (h : gI X) : va_D (gA X) (gw X f) := by
  refine ⟨fun i j p q hi hj e => ?_, fun k q hk => ?_⟩
  · have li := (List.getElem?_eq_some_iff.mp hi).1
    have lj := (List.getElem?_eq_some_iff.mp hj).1
    rw [gw_len] at li lj
    rw [gw_at li] at hi
    rw [gw_at lj] at hj
    cases hi; cases hj
    exact h i j li lj e
  · have lk := (List.getElem?_eq_some_iff.mp hk).1
    rw [gw_len] at lk
    rw [gw_at lk] at hk
    cases hk
    exact ⟨k, lk, rfl⟩
/-! constants: the two static rows, the eleven words of the text -/
def kaF (j : Nat) : Value := .int (([-1, 0, 0, 0, 1, 2] : List Int32).getD j 0)
def nmL : List Int32 := [112, 101, 114, 115, 111, 110, 0, 98, 114, 111, 116, 104, 101, 114, 98, 114, 105, 100, 101, 0, 0, 115, 97, 105, 110, 116, 0, 0, 116, 119, 105, 110, 0, 0, 0, 119, 105, 100, 111, 119, 0, 0, 103, 114, 117, 100, 103, 101, 0, 97, 116, 0, 0, 0, 0, 0, 103, 114, 105, 110, 100, 0, 0, 117, 112, 0, 0, 0, 0, 0, 100, 111, 119, 110, 0, 0, 0]
def nmF (j : Nat) : Value := .int (nmL.getD j 0)
/-- the words, by their number: 0 person .. 5 widow, 6 grudge, 7 at, 8 grind, 9 up, 10 down -/
def swL : List (List Int32) := [[112, 101, 114, 115, 111, 110], [98, 114, 111, 116, 104, 101, 114], [98, 114, 105, 100, 101], [115, 97, 105, 110, 116], [116, 119, 105, 110], [119, 105, 100, 111, 119], [103, 114, 117, 100, 103, 101], [97, 116], [103, 114, 105, 110, 100], [117, 112], [100, 111, 119, 110]]
def swN : List Nat := [6, 7, 5, 5, 4, 5, 6, 2, 5, 2, 4]
def swI : List (Nat × String) := [(111, "person"), (101, "brother"), (103, "bride"), (105, "saint"), (107, "twin"), (109, "widow"), (67, "grudge"), (81, "at"), (34, "grind"), (43, "up"), (49, "down")]
def gZ (X : Gx) (U : State) : Prop :=
  gI X ∧ va_K (gD X) vwCl (gty X) U ∧ (∀ q ∈ nstT, va_Nw (nW q) U) ∧
  (va_Z RX5 "KIND_ABOVE" "[I" (.ref (gs X 0)) (gA X) U U.heap ∧ va_T .int (gs X 0) 6 kaF (gA X) U U.heap) ∧
  (va_Z RX6 "NAMES" "[I" (.ref (gs X 1)) (gA X) U U.heap ∧ va_T .int (gs X 1) 77 nmF (gA X) U U.heap) ∧
  vk_S 11 swN swL (gK X) (gV X) (gA X) U U.heap ∧ (∀ (i : Nat) (q : Nat × String), swI[i]? = some q → vk_R RX4 q.1 q.2 (gK X i) U) ∧
  va_Z RJ0 "COMPACT_STRINGS" "Z" (.int 1) (gA X) U U.heap ∧ va_Zq RJ3 "SIOOBE_FORMATTER" "Ljava/util/function/BiFunction;" (gA X) U U.heap
theorem gZ.calling {X : Gx} {U : State} {g : JFrame} {mk : MethodId} {as : Array Value} (h : gZ X U) : gZ X (U.calling g mk as) := by
  obtain ⟨h1, h2, h3, ⟨h4, h5⟩, ⟨h6, h7⟩, h8, h9, h10, h11⟩ := h
  have al : U.vm.Alike (U.calling g mk as).vm := Vm.Alike.refl U.vm
  exact ⟨h1, va_K.moved al h2, fun q hq => va_Nw.same rfl rfl (h3 q hq), ⟨va_Z.moved al h4, va_T.moved al h5⟩, ⟨va_Z.moved al h6, va_T.moved al h7⟩, vk_S.moved al h8, fun i q hq => vk_R.same rfl (h9 i q hq), va_Z.moved al h10, va_Zq.moved al h11⟩
theorem gZ.go {X : Gx} {s U : State} {H : Heap} {locs : List Loc} (h : gZ X s) (hS : va_S (gA X) s.heap H locs) (hU : U.heap = H) (hW : s.WarmedH U.vm) : gZ X U := by
  obtain ⟨h1, h2, h3, ⟨h4, h5⟩, ⟨h6, h7⟩, h8, h9, h10, h11⟩ := h
  have al := hW.alike
  subst hU
  have hk := hS.2.1
  exact ⟨h1, va_K.moved al h2, fun q hq => va_Nw.warmF hW (h3 q hq), ⟨(va_Z.moved al h4).kept hk, (va_T.moved al h5).kept hk⟩, ⟨(va_Z.moved al h6).kept hk, (va_T.moved al h7).kept hk⟩, (vk_S.moved al h8).kept hk, fun i q hq => vk_R.warm hW (h9 i q hq), (va_Z.moved al h10).kept hk, (va_Zq.moved al h11).kept hk⟩
/-! ===== locals: a list, none where nothing is known ===== -/
abbrev Lv : Type := List (Option Value)
def hasL (ls : Array Slot) (nL : Nat) (lv : Lv) : Prop := ls.size = nL ∧ lv_wf ls ∧ (∀ (i : Nat) (v : Value), lv[i]? = some (some v) → ls[i]? = some (.val v)) ∧ lv.length ≤ nL
def prs (lv : Lv) : List (Nat × Value) := (List.range lv.length).filterMap (fun i => match lv[i]? with
  | some (some v) => some (i, v)
  | _ => none)
theorem prs_mem {lv : Lv} {i : Nat} {v : Value} : (i, v) ∈ prs lv ↔ lv[i]? = some (some v) := by
  unfold prs
  rw [List.mem_filterMap]
  constructor
  · rintro ⟨j, hj, h⟩
    cases hq : lv[j]? with
    | none => rw [hq] at h; cases h
    | some w =>
      cases w with
      | none => rw [hq] at h; cases h
      | some w => rw [hq] at h; cases h; exact hq
  · intro h
    refine ⟨i, List.mem_range.mpr (List.getElem?_eq_some_iff.mp h).1, ?_⟩
    rw [h]
theorem hasL.prs {ls : Array Slot} {nL : Nat} {lv : Lv} (h : hasL ls nL lv) : lv_has ls nL (prs lv) := ⟨h.1, h.2.1, fun q hq => h.2.2.1 q.1 q.2 (prs_mem.mp hq)⟩
def cat1 (x : Option Value) : Bool := match x with
  | some v => !(v.category == 2)
  | none => true
def pOK (lv : Lv) (i : Nat) : Bool := match i with
  | 0 => true
  | i + 1 => match lv[i]? with
    | some x => cat1 x
    | none => true
theorem hasL_set1 {ls : Array Slot} {nL : Nat} {lv : Lv} {i : Nat} {v : Value} (hi : i < lv.length) (hn : lv.length ≤ nL) (hp : pOK lv i = true) (h : lv_has ls nL ((i, v) :: (prs lv).filter (fun q => !(q.1 == i) && !(q.1 + 1 == i && q.2.category == 2)))) : hasL ls nL (lv.set i (some v)) := by
  refine ⟨h.1, h.2.1, fun j w hj => ?_, by rw [List.length_set]; exact hn⟩
  by_cases e : i = j
  · subst e
    rw [List.getElem?_set_self hi] at hj
    cases hj
    exact h.2.2 _ List.mem_cons_self
  · rw [List.getElem?_set_ne e] at hj
    refine h.2.2 (j, w) (List.mem_cons_of_mem _ (List.mem_filter.mpr ⟨prs_mem.mpr hj, ?_⟩))
    have hne : ¬ j = i := fun z => e z.symm
    by_cases e2 : j + 1 = i
    · subst e2
      have : cat1 (some w) = true := by
        have hp2 := hp
        simp only [pOK, hj] at hp2
        exact hp2
      simp only [cat1] at this
      simp [hne]
      simpa using this
    · simp [hne, e2]
theorem hasL_set2 {ls : Array Slot} {nL : Nat} {lv : Lv} {i : Nat} {v : Value} (hi : i < lv.length) (hn : lv.length ≤ nL) (hp : pOK lv i = true) (h : lv_has ls nL ((i, v) :: (prs lv).filter (fun q => !(q.1 == i) && (!(q.1 == i + 1) && !(q.1 + 1 == i && q.2.category == 2))))) : hasL ls nL ((lv.set i (some v)).set (i + 1) none) := by
  refine ⟨h.1, h.2.1, fun j w hj => ?_, by rw [List.length_set, List.length_set]; exact hn⟩
  by_cases e0 : i + 1 = j
  · subst e0
    by_cases hl : i + 1 < (lv.set i (some v)).length
    · rw [List.getElem?_set_self hl] at hj; cases hj
    · rw [List.getElem?_eq_none (by rw [List.length_set]; omega)] at hj; cases hj
  rw [List.getElem?_set_ne e0] at hj
  by_cases e : i = j
  · subst e
    rw [List.getElem?_set_self hi] at hj
    cases hj
    exact h.2.2 _ List.mem_cons_self
  · rw [List.getElem?_set_ne e] at hj
    refine h.2.2 (j, w) (List.mem_cons_of_mem _ (List.mem_filter.mpr ⟨prs_mem.mpr hj, ?_⟩))
    have hne : ¬ j = i := fun z => e z.symm
    have hne0 : ¬ j = i + 1 := fun z => e0 z.symm
    by_cases e2 : j + 1 = i
    · subst e2
      have : cat1 (some w) = true := by
        have hp2 := hp
        simp only [pOK, hj] at hp2
        exact hp2
      simp only [cat1] at this
      have h8 : ¬ j = j + 1 + 1 := by omega
      simp [hne, h8]
      simpa using this
    · simp [hne, hne0, e2]
/-- less is known -/
def lvLe : Lv → Lv → Prop
  | [], _ => True
  | _ :: _, [] => False
  | none :: t, _ :: u => lvLe t u
  | some x :: t, y :: u => y = some x ∧ lvLe t u
theorem lvLe_at : ∀ (t u : Lv), lvLe t u → ∀ (i : Nat) (v : Value), t[i]? = some (some v) → u[i]? = some (some v)
  | [], _, _, i, v, h => by simp at h
  | x :: t, [], hl, i, v, h => absurd hl (by simp [lvLe])
  | none :: t, y :: u, hl, i, v, h => by
    cases i with
    | zero => simp at h
    | succ i => simpa using lvLe_at t u hl i v (by simpa using h)
  | some x :: t, y :: u, hl, i, v, h => by
    cases i with
    | zero => obtain ⟨h1, -⟩ := hl; subst h1; simpa using h
    | succ i => simpa using lvLe_at t u hl.2 i v (by simpa using h)
theorem lvLe_len : ∀ (t u : Lv), lvLe t u → t.length ≤ u.length
  | [], _, _ => by simp
  | x :: t, [], hl => absurd hl (by simp [lvLe])
  | none :: t, y :: u, hl => by have := lvLe_len t u hl; simp; omega
  | some x :: t, y :: u, hl => by have := lvLe_len t u hl.2; simp; omega
def lvA : List Value → Lv
  | [] => []
  | v :: vs => if v.category = 2 then some v :: none :: lvA vs else some v :: lvA vs
def lvE (n : Nat) (vs : List Value) : Lv := lvA vs ++ List.replicate (n - (lvA vs).length) none
theorem lvA_args : ∀ (vs : List Value) (i j : Nat) (v : Value), (lvA vs)[j]? = some (some v) → (i + j, v) ∈ lv_args i vs
  | [], i, j, v, h => by simp [lvA] at h
  | w :: vs, i, j, v, h => by
    unfold lvA at h
    unfold lv_args
    by_cases hc : w.category = 2
    · rw [if_pos hc] at h ⊢
      match j, h with
      | 0, h => simp at h; subst h; exact List.mem_cons_self
      | 1, h => simp at h
      | j + 2, h => have := lvA_args vs (i + 2) j v (by simpa using h); rw [show i + (j + 2) = i + 2 + j by omega]; exact List.mem_cons_of_mem _ this
    · rw [if_neg hc] at h ⊢
      match j, h with
      | 0, h => simp at h; subst h; exact List.mem_cons_self
      | j + 1, h => have := lvA_args vs (i + 1) j v (by simpa using h); rw [show i + (j + 1) = i + 1 + j by omega]; exact List.mem_cons_of_mem _ this
theorem hasL_entry (vs : List Value) {n : Nat} (h : (lg_sl vs).length ≤ n) (h0 : (lvE n vs).length ≤ n) : hasL ((lg_sl vs ++ List.replicate (n - (lg_sl vs).length) Slot.unset).toArray) n (lvE n vs) := by
  obtain ⟨h1, h2, h3⟩ := lv_entry vs h
  refine ⟨h1, h2, fun i v hi => ?_, h0⟩
  by_cases hl : i < (lvA vs).length
  · rw [lvE, List.getElem?_append_left hl] at hi
    have := h3 _ (lvA_args vs 0 i v hi)
    simpa using this
  · rw [lvE, List.getElem?_append_right (by omega)] at hi
    have := List.mem_of_getElem? hi
    rw [List.mem_replicate] at this
    cases this.2
/-! ===== the judgement ===== -/
abbrev Cx : Type := Program × Env × State × MethodId × Array Value × List Frame × Method × Code × Nat × (State → Prop) × Nat × Nat
def V (l : Launch) (X : Gx) (R : Room) (C : Cx) (f : Hp) (pc : Nat) (lv : Lv) (st : List Value) : Prop := match C with
  | (p, e, s, m, args, below, meth, c, nL, Q, kc, ks) => ∀ (H : Heap) (locs : List Loc) (ls : Array Slot), va_P (gD X) vwCl (gw X f) H → va_S (gA X) s.heap H locs → hasL ls nL lv → W p l e R s m args below meth c H locs kc ks Q (F0 m pc ls st)
def cOK (X : Gx) (R : Room) (C : Cx) (cc : ByteArray) (own : String) : Prop := match C with
  | (p, _, s, m, args, _, _, c, nL, _, kc, ks) => p.tables.exec = Jvm.exec ∧ c.code = cc ∧ c.maxLocals = nL ∧ s.vm.findClass own = some m.cls ∧ (∀ w ∈ tG, w.before args s = true) ∧ gZ X s ∧ kc ≤ R.cells ∧ ks ≤ R.slots
def rmk (F L : Nat) : Room := { frames := F, cells := 0, slots := 0, locals := L }
/-- contracts: an int or boolean (or byte, char) answer; none; a long; a reference -/
def Ci (l : Launch) (X : Gx) (y : MethodName) (bytes : ByteArray) (maxL : Nat) (ret : Option FieldType) (rm : Room) (as : List Value) (f : Hp) (post : Int32 → Hp → Prop) : Prop :=
  Met l y (Cond.code y bytes maxL ret :: tG) rm (va_Pc as (fun U => gZ X U ∧ va_P (gD X) vwCl (gw X f) U.heap)) (va_Qi post (fun g t => va_P (gD X) vwCl (gw X g) t.heap) (gA X)) 0 0 (gA X)
def Cv (l : Launch) (X : Gx) (y : MethodName) (bytes : ByteArray) (maxL : Nat) (ret : Option FieldType) (rm : Room) (as : List Value) (f : Hp) (post : Hp → Prop) : Prop :=
  Met l y (Cond.code y bytes maxL ret :: tG) rm (va_Pc as (fun U => gZ X U ∧ va_P (gD X) vwCl (gw X f) U.heap)) (va_Qv post (fun g t => va_P (gD X) vwCl (gw X g) t.heap) (gA X)) 0 0 (gA X)
def Cl (l : Launch) (X : Gx) (y : MethodName) (bytes : ByteArray) (maxL : Nat) (ret : Option FieldType) (rm : Room) (as : List Value) (f : Hp) (post : Int64 → Hp → Prop) : Prop :=
  Met l y (Cond.code y bytes maxL ret :: tG) rm (va_Pc as (fun U => gZ X U ∧ va_P (gD X) vwCl (gw X f) U.heap)) (va_Ql post (fun g t => va_P (gD X) vwCl (gw X g) t.heap) (gA X)) 0 0 (gA X)
def Cr (l : Launch) (X : Gx) (y : MethodName) (bytes : ByteArray) (maxL : Nat) (ret : Option FieldType) (rm : Room) (as : List Value) (f : Hp) (post : Nat → Hp → Prop) : Prop :=
  Met l y (Cond.code y bytes maxL ret :: tG) rm (va_Pc as (fun U => gZ X U ∧ va_P (gD X) vwCl (gw X f) U.heap)) (va_Qr (fun _ : Hp => True) (fun g a t => post a g ∧ va_P (gD X) vwCl (gw X g) t.heap) (gA X)) 0 0 (gA X)
section VR
variable {l : Launch} {X : Gx} {R : Room} {C : Cx} {f : Hp} {pc q t : Nat} {lv : Lv} {st : List Value} {cc : ByteArray} {own : String}
theorem v_weak {lv' : Lv} (h : lvLe lv' lv) (k : V l X R C f pc lv' st) : V l X R C f pc lv st := by
  obtain ⟨p, e, s, m, args, below, meth, c, nL, Q, kc, ks⟩ := C
  intro H locs ls hP hS hl
  exact k H locs ls hP hS ⟨hl.1, hl.2.1, fun i v hi => hl.2.2.1 i v (lvLe_at _ _ h i v hi), Nat.le_trans (lvLe_len _ _ h) hl.2.2.2⟩
theorem v_heap {g : Hp} (h : f = g) (k : V l X R C g pc lv st) : V l X R C f pc lv st := h ▸ k
theorem v_tops {st' : List Value} (h : st = st') (k : V l X R C f pc lv st') : V l X R C f pc lv st := h ▸ k

theorem v_iconst (hC : cOK X R C cc own) {n : Int} {v : Int32} (hv : Int32.ofInt n = v) (d : decode cc pc = .ok (.iconst n, 1)) (hq : pc + 1 = q) (k : V l X R C f q lv (.int v :: st)) : V l X R C f pc lv (st) := by
  obtain ⟨p, e, s, m, args, below, meth, c, nL, Q, kc, ks⟩ := C
  subst hq
  intro H locs ls hP hS hl
  exact lv_iconst hC.1 hC.2.1 d hv (k H locs ls hP hS hl)
theorem v_bipush (hC : cOK X R C cc own) {n : Int} {v : Int32} (hv : (Int8.ofInt n).toInt32 = v) (d : decode cc pc = .ok (.bipush n, 2)) (hq : pc + 2 = q) (k : V l X R C f q lv (.int v :: st)) : V l X R C f pc lv (st) := by
  obtain ⟨p, e, s, m, args, below, meth, c, nL, Q, kc, ks⟩ := C
  subst hq
  intro H locs ls hP hS hl
  exact lv_bipush hC.1 hC.2.1 d hv (k H locs ls hP hS hl)
theorem v_sipush (hC : cOK X R C cc own) {n : Int} {v : Int32} (hv : (Int16.ofInt n).toInt32 = v) (d : decode cc pc = .ok (.sipush n, 3)) (hq : pc + 3 = q) (k : V l X R C f q lv (.int v :: st)) : V l X R C f pc lv (st) := by
  obtain ⟨p, e, s, m, args, below, meth, c, nL, Q, kc, ks⟩ := C
  subst hq
  intro H locs ls hP hS hl
  exact lv_sipush hC.1 hC.2.1 d hv (k H locs ls hP hS hl)
theorem v_lconst (hC : cOK X R C cc own) {n : Fin 2} {v : Int64} (hv : Int64.ofNat (n : Nat) = v) (d : decode cc pc = .ok (.lconst n, 1)) (hq : pc + 1 = q) (k : V l X R C f q lv (.long v :: st)) : V l X R C f pc lv (st) := by
  obtain ⟨p, e, s, m, args, below, meth, c, nL, Q, kc, ks⟩ := C
  subst hq
  intro H locs ls hP hS hl
  exact lv_lconst hC.1 hC.2.1 d hv (k H locs ls hP hS hl)
theorem v_iload_n (hC : cOK X R C cc own) {j : Fin 4} {x : Int32} (hv : lv[(j : Nat)]? = some (some (.int x))) (d : decode cc pc = .ok (.iload_n j, 1)) (hq : pc + 1 = q) (k : V l X R C f q lv (.int x :: st)) : V l X R C f pc lv (st) := by
  obtain ⟨p, e, s, m, args, below, meth, c, nL, Q, kc, ks⟩ := C
  subst hq
  intro H locs ls hP hS hl
  exact lv_iload_n hC.1 hC.2.1 d rfl (hl.2.2.1 _ _ hv) (k H locs ls hP hS hl)
theorem v_iload (hC : cOK X R C cc own) {i : Nat} {x : Int32} (hv : lv[i]? = some (some (.int x))) (d : decode cc pc = .ok (.iload i, 2)) (hq : pc + 2 = q) (k : V l X R C f q lv (.int x :: st)) : V l X R C f pc lv (st) := by
  obtain ⟨p, e, s, m, args, below, meth, c, nL, Q, kc, ks⟩ := C
  subst hq
  intro H locs ls hP hS hl
  exact lv_iload hC.1 hC.2.1 d (hl.2.2.1 _ _ hv) (k H locs ls hP hS hl)
theorem v_lload_n (hC : cOK X R C cc own) {j : Fin 4} {x : Int64} (hv : lv[(j : Nat)]? = some (some (.long x))) (d : decode cc pc = .ok (.lload_n j, 1)) (hq : pc + 1 = q) (k : V l X R C f q lv (.long x :: st)) : V l X R C f pc lv (st) := by
  obtain ⟨p, e, s, m, args, below, meth, c, nL, Q, kc, ks⟩ := C
  subst hq
  intro H locs ls hP hS hl
  exact lv_lload_n hC.1 hC.2.1 d rfl (hl.2.2.1 _ _ hv) (k H locs ls hP hS hl)
theorem v_lload (hC : cOK X R C cc own) {i : Nat} {x : Int64} (hv : lv[i]? = some (some (.long x))) (d : decode cc pc = .ok (.lload i, 2)) (hq : pc + 2 = q) (k : V l X R C f q lv (.long x :: st)) : V l X R C f pc lv (st) := by
  obtain ⟨p, e, s, m, args, below, meth, c, nL, Q, kc, ks⟩ := C
  subst hq
  intro H locs ls hP hS hl
  exact lv_lload hC.1 hC.2.1 d (hl.2.2.1 _ _ hv) (k H locs ls hP hS hl)
theorem v_aload_n (hC : cOK X R C cc own) {j : Fin 4} {x : Nat} (hv : lv[(j : Nat)]? = some (some (.ref x))) (d : decode cc pc = .ok (.aload_n j, 1)) (hq : pc + 1 = q) (k : V l X R C f q lv (.ref x :: st)) : V l X R C f pc lv (st) := by
  obtain ⟨p, e, s, m, args, below, meth, c, nL, Q, kc, ks⟩ := C
  subst hq
  intro H locs ls hP hS hl
  exact lv_aload_n hC.1 hC.2.1 d rfl (hl.2.2.1 _ _ hv) (k H locs ls hP hS hl)
theorem v_aload (hC : cOK X R C cc own) {i : Nat} {x : Nat} (hv : lv[i]? = some (some (.ref x))) (d : decode cc pc = .ok (.aload i, 2)) (hq : pc + 2 = q) (k : V l X R C f q lv (.ref x :: st)) : V l X R C f pc lv (st) := by
  obtain ⟨p, e, s, m, args, below, meth, c, nL, Q, kc, ks⟩ := C
  subst hq
  intro H locs ls hP hS hl
  exact lv_aload hC.1 hC.2.1 d (hl.2.2.1 _ _ hv) (k H locs ls hP hS hl)
theorem v_istore_0 (hC : cOK X R C cc own) {b : Option Value} {x : Int32} (d : decode cc pc = .ok (.istore_n 0, 1)) (hq : pc + 1 = q) (k : V l X R C f q (some (.int x) :: lv) st) : V l X R C f pc (b :: lv) (.int x :: st) := by
  obtain ⟨p, e, s, m, args, below, meth, c, nL, Q, kc, ks⟩ := C
  subst hq
  intro H locs ls hP hS hl
  have hn := Nat.lt_of_lt_of_le (show 0 < (b :: lv).length by simp) hl.2.2.2
  exact lv_istore_n hC.1 hC.2.1 d rfl hl.prs hn rfl (fun ls' h => k H locs ls' hP hS (hasL_set1 (lv := b :: lv) (i := 0) (v := .int x) (by simp) hl.2.2.2 rfl h))
theorem v_istore_1 (hC : cOK X R C cc own) {a0 : Option Value} {b : Option Value} {x : Int32} (hp : cat1 a0 = true) (d : decode cc pc = .ok (.istore_n 1, 1)) (hq : pc + 1 = q) (k : V l X R C f q (a0 :: some (.int x) :: lv) st) : V l X R C f pc (a0 :: b :: lv) (.int x :: st) := by
  obtain ⟨p, e, s, m, args, below, meth, c, nL, Q, kc, ks⟩ := C
  subst hq
  intro H locs ls hP hS hl
  have hn := Nat.lt_of_lt_of_le (show 1 < (a0 :: b :: lv).length by simp) hl.2.2.2
  exact lv_istore_n hC.1 hC.2.1 d rfl hl.prs hn rfl (fun ls' h => k H locs ls' hP hS (hasL_set1 (lv := a0 :: b :: lv) (i := 1) (v := .int x) (by simp) hl.2.2.2 hp h))
theorem v_istore_2 (hC : cOK X R C cc own) {a0 a1 : Option Value} {b : Option Value} {x : Int32} (hp : cat1 a1 = true) (d : decode cc pc = .ok (.istore_n 2, 1)) (hq : pc + 1 = q) (k : V l X R C f q (a0 :: a1 :: some (.int x) :: lv) st) : V l X R C f pc (a0 :: a1 :: b :: lv) (.int x :: st) := by
  obtain ⟨p, e, s, m, args, below, meth, c, nL, Q, kc, ks⟩ := C
  subst hq
  intro H locs ls hP hS hl
  have hn := Nat.lt_of_lt_of_le (show 2 < (a0 :: a1 :: b :: lv).length by simp) hl.2.2.2
  exact lv_istore_n hC.1 hC.2.1 d rfl hl.prs hn rfl (fun ls' h => k H locs ls' hP hS (hasL_set1 (lv := a0 :: a1 :: b :: lv) (i := 2) (v := .int x) (by simp) hl.2.2.2 hp h))
theorem v_istore_3 (hC : cOK X R C cc own) {a0 a1 a2 : Option Value} {b : Option Value} {x : Int32} (hp : cat1 a2 = true) (d : decode cc pc = .ok (.istore_n 3, 1)) (hq : pc + 1 = q) (k : V l X R C f q (a0 :: a1 :: a2 :: some (.int x) :: lv) st) : V l X R C f pc (a0 :: a1 :: a2 :: b :: lv) (.int x :: st) := by
  obtain ⟨p, e, s, m, args, below, meth, c, nL, Q, kc, ks⟩ := C
  subst hq
  intro H locs ls hP hS hl
  have hn := Nat.lt_of_lt_of_le (show 3 < (a0 :: a1 :: a2 :: b :: lv).length by simp) hl.2.2.2
  exact lv_istore_n hC.1 hC.2.1 d rfl hl.prs hn rfl (fun ls' h => k H locs ls' hP hS (hasL_set1 (lv := a0 :: a1 :: a2 :: b :: lv) (i := 3) (v := .int x) (by simp) hl.2.2.2 hp h))
theorem v_istore_4 (hC : cOK X R C cc own) {a0 a1 a2 a3 : Option Value} {b : Option Value} {x : Int32} (hp : cat1 a3 = true) (d : decode cc pc = .ok (.istore 4, 2)) (hq : pc + 2 = q) (k : V l X R C f q (a0 :: a1 :: a2 :: a3 :: some (.int x) :: lv) st) : V l X R C f pc (a0 :: a1 :: a2 :: a3 :: b :: lv) (.int x :: st) := by
  obtain ⟨p, e, s, m, args, below, meth, c, nL, Q, kc, ks⟩ := C
  subst hq
  intro H locs ls hP hS hl
  have hn := Nat.lt_of_lt_of_le (show 4 < (a0 :: a1 :: a2 :: a3 :: b :: lv).length by simp) hl.2.2.2
  exact lv_istore hC.1 hC.2.1 d hl.prs hn rfl (fun ls' h => k H locs ls' hP hS (hasL_set1 (lv := a0 :: a1 :: a2 :: a3 :: b :: lv) (i := 4) (v := .int x) (by simp) hl.2.2.2 hp h))
theorem v_istore_5 (hC : cOK X R C cc own) {a0 a1 a2 a3 a4 : Option Value} {b : Option Value} {x : Int32} (hp : cat1 a4 = true) (d : decode cc pc = .ok (.istore 5, 2)) (hq : pc + 2 = q) (k : V l X R C f q (a0 :: a1 :: a2 :: a3 :: a4 :: some (.int x) :: lv) st) : V l X R C f pc (a0 :: a1 :: a2 :: a3 :: a4 :: b :: lv) (.int x :: st) := by
  obtain ⟨p, e, s, m, args, below, meth, c, nL, Q, kc, ks⟩ := C
  subst hq
  intro H locs ls hP hS hl
  have hn := Nat.lt_of_lt_of_le (show 5 < (a0 :: a1 :: a2 :: a3 :: a4 :: b :: lv).length by simp) hl.2.2.2
  exact lv_istore hC.1 hC.2.1 d hl.prs hn rfl (fun ls' h => k H locs ls' hP hS (hasL_set1 (lv := a0 :: a1 :: a2 :: a3 :: a4 :: b :: lv) (i := 5) (v := .int x) (by simp) hl.2.2.2 hp h))
theorem v_istore_6 (hC : cOK X R C cc own) {a0 a1 a2 a3 a4 a5 : Option Value} {b : Option Value} {x : Int32} (hp : cat1 a5 = true) (d : decode cc pc = .ok (.istore 6, 2)) (hq : pc + 2 = q) (k : V l X R C f q (a0 :: a1 :: a2 :: a3 :: a4 :: a5 :: some (.int x) :: lv) st) : V l X R C f pc (a0 :: a1 :: a2 :: a3 :: a4 :: a5 :: b :: lv) (.int x :: st) := by
  obtain ⟨p, e, s, m, args, below, meth, c, nL, Q, kc, ks⟩ := C
  subst hq
  intro H locs ls hP hS hl
  have hn := Nat.lt_of_lt_of_le (show 6 < (a0 :: a1 :: a2 :: a3 :: a4 :: a5 :: b :: lv).length by simp) hl.2.2.2
  exact lv_istore hC.1 hC.2.1 d hl.prs hn rfl (fun ls' h => k H locs ls' hP hS (hasL_set1 (lv := a0 :: a1 :: a2 :: a3 :: a4 :: a5 :: b :: lv) (i := 6) (v := .int x) (by simp) hl.2.2.2 hp h))
theorem v_istore_7 (hC : cOK X R C cc own) {a0 a1 a2 a3 a4 a5 a6 : Option Value} {b : Option Value} {x : Int32} (hp : cat1 a6 = true) (d : decode cc pc = .ok (.istore 7, 2)) (hq : pc + 2 = q) (k : V l X R C f q (a0 :: a1 :: a2 :: a3 :: a4 :: a5 :: a6 :: some (.int x) :: lv) st) : V l X R C f pc (a0 :: a1 :: a2 :: a3 :: a4 :: a5 :: a6 :: b :: lv) (.int x :: st) := by
  obtain ⟨p, e, s, m, args, below, meth, c, nL, Q, kc, ks⟩ := C
  subst hq
  intro H locs ls hP hS hl
  have hn := Nat.lt_of_lt_of_le (show 7 < (a0 :: a1 :: a2 :: a3 :: a4 :: a5 :: a6 :: b :: lv).length by simp) hl.2.2.2
  exact lv_istore hC.1 hC.2.1 d hl.prs hn rfl (fun ls' h => k H locs ls' hP hS (hasL_set1 (lv := a0 :: a1 :: a2 :: a3 :: a4 :: a5 :: a6 :: b :: lv) (i := 7) (v := .int x) (by simp) hl.2.2.2 hp h))
theorem v_istore_8 (hC : cOK X R C cc own) {a0 a1 a2 a3 a4 a5 a6 a7 : Option Value} {b : Option Value} {x : Int32} (hp : cat1 a7 = true) (d : decode cc pc = .ok (.istore 8, 2)) (hq : pc + 2 = q) (k : V l X R C f q (a0 :: a1 :: a2 :: a3 :: a4 :: a5 :: a6 :: a7 :: some (.int x) :: lv) st) : V l X R C f pc (a0 :: a1 :: a2 :: a3 :: a4 :: a5 :: a6 :: a7 :: b :: lv) (.int x :: st) := by
  obtain ⟨p, e, s, m, args, below, meth, c, nL, Q, kc, ks⟩ := C
  subst hq
  intro H locs ls hP hS hl
  have hn := Nat.lt_of_lt_of_le (show 8 < (a0 :: a1 :: a2 :: a3 :: a4 :: a5 :: a6 :: a7 :: b :: lv).length by simp) hl.2.2.2
  exact lv_istore hC.1 hC.2.1 d hl.prs hn rfl (fun ls' h => k H locs ls' hP hS (hasL_set1 (lv := a0 :: a1 :: a2 :: a3 :: a4 :: a5 :: a6 :: a7 :: b :: lv) (i := 8) (v := .int x) (by simp) hl.2.2.2 hp h))
theorem v_istore_9 (hC : cOK X R C cc own) {a0 a1 a2 a3 a4 a5 a6 a7 a8 : Option Value} {b : Option Value} {x : Int32} (hp : cat1 a8 = true) (d : decode cc pc = .ok (.istore 9, 2)) (hq : pc + 2 = q) (k : V l X R C f q (a0 :: a1 :: a2 :: a3 :: a4 :: a5 :: a6 :: a7 :: a8 :: some (.int x) :: lv) st) : V l X R C f pc (a0 :: a1 :: a2 :: a3 :: a4 :: a5 :: a6 :: a7 :: a8 :: b :: lv) (.int x :: st) := by
  obtain ⟨p, e, s, m, args, below, meth, c, nL, Q, kc, ks⟩ := C
  subst hq
  intro H locs ls hP hS hl
  have hn := Nat.lt_of_lt_of_le (show 9 < (a0 :: a1 :: a2 :: a3 :: a4 :: a5 :: a6 :: a7 :: a8 :: b :: lv).length by simp) hl.2.2.2
  exact lv_istore hC.1 hC.2.1 d hl.prs hn rfl (fun ls' h => k H locs ls' hP hS (hasL_set1 (lv := a0 :: a1 :: a2 :: a3 :: a4 :: a5 :: a6 :: a7 :: a8 :: b :: lv) (i := 9) (v := .int x) (by simp) hl.2.2.2 hp h))
theorem v_istore_10 (hC : cOK X R C cc own) {a0 a1 a2 a3 a4 a5 a6 a7 a8 a9 : Option Value} {b : Option Value} {x : Int32} (hp : cat1 a9 = true) (d : decode cc pc = .ok (.istore 10, 2)) (hq : pc + 2 = q) (k : V l X R C f q (a0 :: a1 :: a2 :: a3 :: a4 :: a5 :: a6 :: a7 :: a8 :: a9 :: some (.int x) :: lv) st) : V l X R C f pc (a0 :: a1 :: a2 :: a3 :: a4 :: a5 :: a6 :: a7 :: a8 :: a9 :: b :: lv) (.int x :: st) := by
  obtain ⟨p, e, s, m, args, below, meth, c, nL, Q, kc, ks⟩ := C
  subst hq
  intro H locs ls hP hS hl
  have hn := Nat.lt_of_lt_of_le (show 10 < (a0 :: a1 :: a2 :: a3 :: a4 :: a5 :: a6 :: a7 :: a8 :: a9 :: b :: lv).length by simp) hl.2.2.2
  exact lv_istore hC.1 hC.2.1 d hl.prs hn rfl (fun ls' h => k H locs ls' hP hS (hasL_set1 (lv := a0 :: a1 :: a2 :: a3 :: a4 :: a5 :: a6 :: a7 :: a8 :: a9 :: b :: lv) (i := 10) (v := .int x) (by simp) hl.2.2.2 hp h))
theorem v_istore_11 (hC : cOK X R C cc own) {a0 a1 a2 a3 a4 a5 a6 a7 a8 a9 a10 : Option Value} {b : Option Value} {x : Int32} (hp : cat1 a10 = true) (d : decode cc pc = .ok (.istore 11, 2)) (hq : pc + 2 = q) (k : V l X R C f q (a0 :: a1 :: a2 :: a3 :: a4 :: a5 :: a6 :: a7 :: a8 :: a9 :: a10 :: some (.int x) :: lv) st) : V l X R C f pc (a0 :: a1 :: a2 :: a3 :: a4 :: a5 :: a6 :: a7 :: a8 :: a9 :: a10 :: b :: lv) (.int x :: st) := by
  obtain ⟨p, e, s, m, args, below, meth, c, nL, Q, kc, ks⟩ := C
  subst hq
  intro H locs ls hP hS hl
  have hn := Nat.lt_of_lt_of_le (show 11 < (a0 :: a1 :: a2 :: a3 :: a4 :: a5 :: a6 :: a7 :: a8 :: a9 :: a10 :: b :: lv).length by simp) hl.2.2.2
  exact lv_istore hC.1 hC.2.1 d hl.prs hn rfl (fun ls' h => k H locs ls' hP hS (hasL_set1 (lv := a0 :: a1 :: a2 :: a3 :: a4 :: a5 :: a6 :: a7 :: a8 :: a9 :: a10 :: b :: lv) (i := 11) (v := .int x) (by simp) hl.2.2.2 hp h))
theorem v_astore_0 (hC : cOK X R C cc own) {b : Option Value} {x : Nat} (d : decode cc pc = .ok (.astore_n 0, 1)) (hq : pc + 1 = q) (k : V l X R C f q (some (.ref x) :: lv) st) : V l X R C f pc (b :: lv) (.ref x :: st) := by
  obtain ⟨p, e, s, m, args, below, meth, c, nL, Q, kc, ks⟩ := C
  subst hq
  intro H locs ls hP hS hl
  have hn := Nat.lt_of_lt_of_le (show 0 < (b :: lv).length by simp) hl.2.2.2
  exact lv_astore_n hC.1 hC.2.1 d rfl hl.prs hn rfl (fun ls' h => k H locs ls' hP hS (hasL_set1 (lv := b :: lv) (i := 0) (v := .ref x) (by simp) hl.2.2.2 rfl h))
theorem v_astore_1 (hC : cOK X R C cc own) {a0 : Option Value} {b : Option Value} {x : Nat} (hp : cat1 a0 = true) (d : decode cc pc = .ok (.astore_n 1, 1)) (hq : pc + 1 = q) (k : V l X R C f q (a0 :: some (.ref x) :: lv) st) : V l X R C f pc (a0 :: b :: lv) (.ref x :: st) := by
  obtain ⟨p, e, s, m, args, below, meth, c, nL, Q, kc, ks⟩ := C
  subst hq
  intro H locs ls hP hS hl
  have hn := Nat.lt_of_lt_of_le (show 1 < (a0 :: b :: lv).length by simp) hl.2.2.2
  exact lv_astore_n hC.1 hC.2.1 d rfl hl.prs hn rfl (fun ls' h => k H locs ls' hP hS (hasL_set1 (lv := a0 :: b :: lv) (i := 1) (v := .ref x) (by simp) hl.2.2.2 hp h))
theorem v_astore_2 (hC : cOK X R C cc own) {a0 a1 : Option Value} {b : Option Value} {x : Nat} (hp : cat1 a1 = true) (d : decode cc pc = .ok (.astore_n 2, 1)) (hq : pc + 1 = q) (k : V l X R C f q (a0 :: a1 :: some (.ref x) :: lv) st) : V l X R C f pc (a0 :: a1 :: b :: lv) (.ref x :: st) := by
  obtain ⟨p, e, s, m, args, below, meth, c, nL, Q, kc, ks⟩ := C
  subst hq
  intro H locs ls hP hS hl
  have hn := Nat.lt_of_lt_of_le (show 2 < (a0 :: a1 :: b :: lv).length by simp) hl.2.2.2
  exact lv_astore_n hC.1 hC.2.1 d rfl hl.prs hn rfl (fun ls' h => k H locs ls' hP hS (hasL_set1 (lv := a0 :: a1 :: b :: lv) (i := 2) (v := .ref x) (by simp) hl.2.2.2 hp h))
theorem v_astore_3 (hC : cOK X R C cc own) {a0 a1 a2 : Option Value} {b : Option Value} {x : Nat} (hp : cat1 a2 = true) (d : decode cc pc = .ok (.astore_n 3, 1)) (hq : pc + 1 = q) (k : V l X R C f q (a0 :: a1 :: a2 :: some (.ref x) :: lv) st) : V l X R C f pc (a0 :: a1 :: a2 :: b :: lv) (.ref x :: st) := by
  obtain ⟨p, e, s, m, args, below, meth, c, nL, Q, kc, ks⟩ := C
  subst hq
  intro H locs ls hP hS hl
  have hn := Nat.lt_of_lt_of_le (show 3 < (a0 :: a1 :: a2 :: b :: lv).length by simp) hl.2.2.2
  exact lv_astore_n hC.1 hC.2.1 d rfl hl.prs hn rfl (fun ls' h => k H locs ls' hP hS (hasL_set1 (lv := a0 :: a1 :: a2 :: b :: lv) (i := 3) (v := .ref x) (by simp) hl.2.2.2 hp h))
theorem v_astore_4 (hC : cOK X R C cc own) {a0 a1 a2 a3 : Option Value} {b : Option Value} {x : Nat} (hp : cat1 a3 = true) (d : decode cc pc = .ok (.astore 4, 2)) (hq : pc + 2 = q) (k : V l X R C f q (a0 :: a1 :: a2 :: a3 :: some (.ref x) :: lv) st) : V l X R C f pc (a0 :: a1 :: a2 :: a3 :: b :: lv) (.ref x :: st) := by
  obtain ⟨p, e, s, m, args, below, meth, c, nL, Q, kc, ks⟩ := C
  subst hq
  intro H locs ls hP hS hl
  have hn := Nat.lt_of_lt_of_le (show 4 < (a0 :: a1 :: a2 :: a3 :: b :: lv).length by simp) hl.2.2.2
  exact lv_astore hC.1 hC.2.1 d hl.prs hn rfl (fun ls' h => k H locs ls' hP hS (hasL_set1 (lv := a0 :: a1 :: a2 :: a3 :: b :: lv) (i := 4) (v := .ref x) (by simp) hl.2.2.2 hp h))
theorem v_astore_5 (hC : cOK X R C cc own) {a0 a1 a2 a3 a4 : Option Value} {b : Option Value} {x : Nat} (hp : cat1 a4 = true) (d : decode cc pc = .ok (.astore 5, 2)) (hq : pc + 2 = q) (k : V l X R C f q (a0 :: a1 :: a2 :: a3 :: a4 :: some (.ref x) :: lv) st) : V l X R C f pc (a0 :: a1 :: a2 :: a3 :: a4 :: b :: lv) (.ref x :: st) := by
  obtain ⟨p, e, s, m, args, below, meth, c, nL, Q, kc, ks⟩ := C
  subst hq
  intro H locs ls hP hS hl
  have hn := Nat.lt_of_lt_of_le (show 5 < (a0 :: a1 :: a2 :: a3 :: a4 :: b :: lv).length by simp) hl.2.2.2
  exact lv_astore hC.1 hC.2.1 d hl.prs hn rfl (fun ls' h => k H locs ls' hP hS (hasL_set1 (lv := a0 :: a1 :: a2 :: a3 :: a4 :: b :: lv) (i := 5) (v := .ref x) (by simp) hl.2.2.2 hp h))
theorem v_astore_6 (hC : cOK X R C cc own) {a0 a1 a2 a3 a4 a5 : Option Value} {b : Option Value} {x : Nat} (hp : cat1 a5 = true) (d : decode cc pc = .ok (.astore 6, 2)) (hq : pc + 2 = q) (k : V l X R C f q (a0 :: a1 :: a2 :: a3 :: a4 :: a5 :: some (.ref x) :: lv) st) : V l X R C f pc (a0 :: a1 :: a2 :: a3 :: a4 :: a5 :: b :: lv) (.ref x :: st) := by
  obtain ⟨p, e, s, m, args, below, meth, c, nL, Q, kc, ks⟩ := C
  subst hq
  intro H locs ls hP hS hl
  have hn := Nat.lt_of_lt_of_le (show 6 < (a0 :: a1 :: a2 :: a3 :: a4 :: a5 :: b :: lv).length by simp) hl.2.2.2
  exact lv_astore hC.1 hC.2.1 d hl.prs hn rfl (fun ls' h => k H locs ls' hP hS (hasL_set1 (lv := a0 :: a1 :: a2 :: a3 :: a4 :: a5 :: b :: lv) (i := 6) (v := .ref x) (by simp) hl.2.2.2 hp h))
theorem v_astore_7 (hC : cOK X R C cc own) {a0 a1 a2 a3 a4 a5 a6 : Option Value} {b : Option Value} {x : Nat} (hp : cat1 a6 = true) (d : decode cc pc = .ok (.astore 7, 2)) (hq : pc + 2 = q) (k : V l X R C f q (a0 :: a1 :: a2 :: a3 :: a4 :: a5 :: a6 :: some (.ref x) :: lv) st) : V l X R C f pc (a0 :: a1 :: a2 :: a3 :: a4 :: a5 :: a6 :: b :: lv) (.ref x :: st) := by
  obtain ⟨p, e, s, m, args, below, meth, c, nL, Q, kc, ks⟩ := C
  subst hq
  intro H locs ls hP hS hl
  have hn := Nat.lt_of_lt_of_le (show 7 < (a0 :: a1 :: a2 :: a3 :: a4 :: a5 :: a6 :: b :: lv).length by simp) hl.2.2.2
  exact lv_astore hC.1 hC.2.1 d hl.prs hn rfl (fun ls' h => k H locs ls' hP hS (hasL_set1 (lv := a0 :: a1 :: a2 :: a3 :: a4 :: a5 :: a6 :: b :: lv) (i := 7) (v := .ref x) (by simp) hl.2.2.2 hp h))
theorem v_astore_8 (hC : cOK X R C cc own) {a0 a1 a2 a3 a4 a5 a6 a7 : Option Value} {b : Option Value} {x : Nat} (hp : cat1 a7 = true) (d : decode cc pc = .ok (.astore 8, 2)) (hq : pc + 2 = q) (k : V l X R C f q (a0 :: a1 :: a2 :: a3 :: a4 :: a5 :: a6 :: a7 :: some (.ref x) :: lv) st) : V l X R C f pc (a0 :: a1 :: a2 :: a3 :: a4 :: a5 :: a6 :: a7 :: b :: lv) (.ref x :: st) := by
  obtain ⟨p, e, s, m, args, below, meth, c, nL, Q, kc, ks⟩ := C
  subst hq
  intro H locs ls hP hS hl
  have hn := Nat.lt_of_lt_of_le (show 8 < (a0 :: a1 :: a2 :: a3 :: a4 :: a5 :: a6 :: a7 :: b :: lv).length by simp) hl.2.2.2
  exact lv_astore hC.1 hC.2.1 d hl.prs hn rfl (fun ls' h => k H locs ls' hP hS (hasL_set1 (lv := a0 :: a1 :: a2 :: a3 :: a4 :: a5 :: a6 :: a7 :: b :: lv) (i := 8) (v := .ref x) (by simp) hl.2.2.2 hp h))
theorem v_astore_9 (hC : cOK X R C cc own) {a0 a1 a2 a3 a4 a5 a6 a7 a8 : Option Value} {b : Option Value} {x : Nat} (hp : cat1 a8 = true) (d : decode cc pc = .ok (.astore 9, 2)) (hq : pc + 2 = q) (k : V l X R C f q (a0 :: a1 :: a2 :: a3 :: a4 :: a5 :: a6 :: a7 :: a8 :: some (.ref x) :: lv) st) : V l X R C f pc (a0 :: a1 :: a2 :: a3 :: a4 :: a5 :: a6 :: a7 :: a8 :: b :: lv) (.ref x :: st) := by
  obtain ⟨p, e, s, m, args, below, meth, c, nL, Q, kc, ks⟩ := C
  subst hq
  intro H locs ls hP hS hl
  have hn := Nat.lt_of_lt_of_le (show 9 < (a0 :: a1 :: a2 :: a3 :: a4 :: a5 :: a6 :: a7 :: a8 :: b :: lv).length by simp) hl.2.2.2
  exact lv_astore hC.1 hC.2.1 d hl.prs hn rfl (fun ls' h => k H locs ls' hP hS (hasL_set1 (lv := a0 :: a1 :: a2 :: a3 :: a4 :: a5 :: a6 :: a7 :: a8 :: b :: lv) (i := 9) (v := .ref x) (by simp) hl.2.2.2 hp h))
theorem v_astore_10 (hC : cOK X R C cc own) {a0 a1 a2 a3 a4 a5 a6 a7 a8 a9 : Option Value} {b : Option Value} {x : Nat} (hp : cat1 a9 = true) (d : decode cc pc = .ok (.astore 10, 2)) (hq : pc + 2 = q) (k : V l X R C f q (a0 :: a1 :: a2 :: a3 :: a4 :: a5 :: a6 :: a7 :: a8 :: a9 :: some (.ref x) :: lv) st) : V l X R C f pc (a0 :: a1 :: a2 :: a3 :: a4 :: a5 :: a6 :: a7 :: a8 :: a9 :: b :: lv) (.ref x :: st) := by
  obtain ⟨p, e, s, m, args, below, meth, c, nL, Q, kc, ks⟩ := C
  subst hq
  intro H locs ls hP hS hl
  have hn := Nat.lt_of_lt_of_le (show 10 < (a0 :: a1 :: a2 :: a3 :: a4 :: a5 :: a6 :: a7 :: a8 :: a9 :: b :: lv).length by simp) hl.2.2.2
  exact lv_astore hC.1 hC.2.1 d hl.prs hn rfl (fun ls' h => k H locs ls' hP hS (hasL_set1 (lv := a0 :: a1 :: a2 :: a3 :: a4 :: a5 :: a6 :: a7 :: a8 :: a9 :: b :: lv) (i := 10) (v := .ref x) (by simp) hl.2.2.2 hp h))
theorem v_astore_11 (hC : cOK X R C cc own) {a0 a1 a2 a3 a4 a5 a6 a7 a8 a9 a10 : Option Value} {b : Option Value} {x : Nat} (hp : cat1 a10 = true) (d : decode cc pc = .ok (.astore 11, 2)) (hq : pc + 2 = q) (k : V l X R C f q (a0 :: a1 :: a2 :: a3 :: a4 :: a5 :: a6 :: a7 :: a8 :: a9 :: a10 :: some (.ref x) :: lv) st) : V l X R C f pc (a0 :: a1 :: a2 :: a3 :: a4 :: a5 :: a6 :: a7 :: a8 :: a9 :: a10 :: b :: lv) (.ref x :: st) := by
  obtain ⟨p, e, s, m, args, below, meth, c, nL, Q, kc, ks⟩ := C
  subst hq
  intro H locs ls hP hS hl
  have hn := Nat.lt_of_lt_of_le (show 11 < (a0 :: a1 :: a2 :: a3 :: a4 :: a5 :: a6 :: a7 :: a8 :: a9 :: a10 :: b :: lv).length by simp) hl.2.2.2
  exact lv_astore hC.1 hC.2.1 d hl.prs hn rfl (fun ls' h => k H locs ls' hP hS (hasL_set1 (lv := a0 :: a1 :: a2 :: a3 :: a4 :: a5 :: a6 :: a7 :: a8 :: a9 :: a10 :: b :: lv) (i := 11) (v := .ref x) (by simp) hl.2.2.2 hp h))
theorem v_lstore_0 (hC : cOK X R C cc own) {b b2 : Option Value} {x : Int64} (d : decode cc pc = .ok (.lstore_n 0, 1)) (hq : pc + 1 = q) (k : V l X R C f q (some (.long x) :: none :: lv) st) : V l X R C f pc (b :: b2 :: lv) (.long x :: st) := by
  obtain ⟨p, e, s, m, args, below, meth, c, nL, Q, kc, ks⟩ := C
  subst hq
  intro H locs ls hP hS hl
  have hn := Nat.lt_of_lt_of_le (show 0 + 1 < (b :: b2 :: lv).length by simp) hl.2.2.2
  exact lv_lstore_n hC.1 hC.2.1 d rfl hl.prs hn rfl (fun ls' h => k H locs ls' hP hS (hasL_set2 (lv := b :: b2 :: lv) (i := 0) (v := .long x) (by simp) hl.2.2.2 rfl h))
theorem v_iinc_0 (hC : cOK X R C cc own) {n : Int} {x v : Int32} (hv : x + Int32.ofInt n = v) (d : decode cc pc = .ok (.iinc 0 n, 3)) (hq : pc + 3 = q) (k : V l X R C f q (some (.int v) :: lv) st) : V l X R C f pc (some (.int x) :: lv) st := by
  obtain ⟨p, e, s, m, args, below, meth, c, nL, Q, kc, ks⟩ := C
  subst hq
  intro H locs ls hP hS hl
  have hm : (0, Value.int x) ∈ prs (some (.int x) :: lv) := prs_mem.mpr rfl
  obtain ⟨k0, hk0⟩ := List.getElem?_of_mem hm
  have hn := Nat.lt_of_lt_of_le (show 0 < (some (.int x) :: lv).length by simp) hl.2.2.2
  exact lv_iinc hC.1 hC.2.1 d hl.prs hk0 hv hn rfl (fun ls' h => k H locs ls' hP hS (hasL_set1 (lv := some (.int x) :: lv) (i := 0) (v := .int v) (by simp) hl.2.2.2 rfl h))
theorem v_lstore_1 (hC : cOK X R C cc own) {a0 : Option Value} {b b2 : Option Value} {x : Int64} (hp : cat1 a0 = true) (d : decode cc pc = .ok (.lstore_n 1, 1)) (hq : pc + 1 = q) (k : V l X R C f q (a0 :: some (.long x) :: none :: lv) st) : V l X R C f pc (a0 :: b :: b2 :: lv) (.long x :: st) := by
  obtain ⟨p, e, s, m, args, below, meth, c, nL, Q, kc, ks⟩ := C
  subst hq
  intro H locs ls hP hS hl
  have hn := Nat.lt_of_lt_of_le (show 1 + 1 < (a0 :: b :: b2 :: lv).length by simp) hl.2.2.2
  exact lv_lstore_n hC.1 hC.2.1 d rfl hl.prs hn rfl (fun ls' h => k H locs ls' hP hS (hasL_set2 (lv := a0 :: b :: b2 :: lv) (i := 1) (v := .long x) (by simp) hl.2.2.2 hp h))
theorem v_iinc_1 (hC : cOK X R C cc own) {a0 : Option Value} {n : Int} {x v : Int32} (hp : cat1 a0 = true) (hv : x + Int32.ofInt n = v) (d : decode cc pc = .ok (.iinc 1 n, 3)) (hq : pc + 3 = q) (k : V l X R C f q (a0 :: some (.int v) :: lv) st) : V l X R C f pc (a0 :: some (.int x) :: lv) st := by
  obtain ⟨p, e, s, m, args, below, meth, c, nL, Q, kc, ks⟩ := C
  subst hq
  intro H locs ls hP hS hl
  have hm : (1, Value.int x) ∈ prs (a0 :: some (.int x) :: lv) := prs_mem.mpr rfl
  obtain ⟨k0, hk0⟩ := List.getElem?_of_mem hm
  have hn := Nat.lt_of_lt_of_le (show 1 < (a0 :: some (.int x) :: lv).length by simp) hl.2.2.2
  exact lv_iinc hC.1 hC.2.1 d hl.prs hk0 hv hn rfl (fun ls' h => k H locs ls' hP hS (hasL_set1 (lv := a0 :: some (.int x) :: lv) (i := 1) (v := .int v) (by simp) hl.2.2.2 hp h))
theorem v_lstore_2 (hC : cOK X R C cc own) {a0 a1 : Option Value} {b b2 : Option Value} {x : Int64} (hp : cat1 a1 = true) (d : decode cc pc = .ok (.lstore_n 2, 1)) (hq : pc + 1 = q) (k : V l X R C f q (a0 :: a1 :: some (.long x) :: none :: lv) st) : V l X R C f pc (a0 :: a1 :: b :: b2 :: lv) (.long x :: st) := by
  obtain ⟨p, e, s, m, args, below, meth, c, nL, Q, kc, ks⟩ := C
  subst hq
  intro H locs ls hP hS hl
  have hn := Nat.lt_of_lt_of_le (show 2 + 1 < (a0 :: a1 :: b :: b2 :: lv).length by simp) hl.2.2.2
  exact lv_lstore_n hC.1 hC.2.1 d rfl hl.prs hn rfl (fun ls' h => k H locs ls' hP hS (hasL_set2 (lv := a0 :: a1 :: b :: b2 :: lv) (i := 2) (v := .long x) (by simp) hl.2.2.2 hp h))
theorem v_iinc_2 (hC : cOK X R C cc own) {a0 a1 : Option Value} {n : Int} {x v : Int32} (hp : cat1 a1 = true) (hv : x + Int32.ofInt n = v) (d : decode cc pc = .ok (.iinc 2 n, 3)) (hq : pc + 3 = q) (k : V l X R C f q (a0 :: a1 :: some (.int v) :: lv) st) : V l X R C f pc (a0 :: a1 :: some (.int x) :: lv) st := by
  obtain ⟨p, e, s, m, args, below, meth, c, nL, Q, kc, ks⟩ := C
  subst hq
  intro H locs ls hP hS hl
  have hm : (2, Value.int x) ∈ prs (a0 :: a1 :: some (.int x) :: lv) := prs_mem.mpr rfl
  obtain ⟨k0, hk0⟩ := List.getElem?_of_mem hm
  have hn := Nat.lt_of_lt_of_le (show 2 < (a0 :: a1 :: some (.int x) :: lv).length by simp) hl.2.2.2
  exact lv_iinc hC.1 hC.2.1 d hl.prs hk0 hv hn rfl (fun ls' h => k H locs ls' hP hS (hasL_set1 (lv := a0 :: a1 :: some (.int x) :: lv) (i := 2) (v := .int v) (by simp) hl.2.2.2 hp h))
theorem v_lstore_3 (hC : cOK X R C cc own) {a0 a1 a2 : Option Value} {b b2 : Option Value} {x : Int64} (hp : cat1 a2 = true) (d : decode cc pc = .ok (.lstore_n 3, 1)) (hq : pc + 1 = q) (k : V l X R C f q (a0 :: a1 :: a2 :: some (.long x) :: none :: lv) st) : V l X R C f pc (a0 :: a1 :: a2 :: b :: b2 :: lv) (.long x :: st) := by
  obtain ⟨p, e, s, m, args, below, meth, c, nL, Q, kc, ks⟩ := C
  subst hq
  intro H locs ls hP hS hl
  have hn := Nat.lt_of_lt_of_le (show 3 + 1 < (a0 :: a1 :: a2 :: b :: b2 :: lv).length by simp) hl.2.2.2
  exact lv_lstore_n hC.1 hC.2.1 d rfl hl.prs hn rfl (fun ls' h => k H locs ls' hP hS (hasL_set2 (lv := a0 :: a1 :: a2 :: b :: b2 :: lv) (i := 3) (v := .long x) (by simp) hl.2.2.2 hp h))
theorem v_iinc_3 (hC : cOK X R C cc own) {a0 a1 a2 : Option Value} {n : Int} {x v : Int32} (hp : cat1 a2 = true) (hv : x + Int32.ofInt n = v) (d : decode cc pc = .ok (.iinc 3 n, 3)) (hq : pc + 3 = q) (k : V l X R C f q (a0 :: a1 :: a2 :: some (.int v) :: lv) st) : V l X R C f pc (a0 :: a1 :: a2 :: some (.int x) :: lv) st := by
  obtain ⟨p, e, s, m, args, below, meth, c, nL, Q, kc, ks⟩ := C
  subst hq
  intro H locs ls hP hS hl
  have hm : (3, Value.int x) ∈ prs (a0 :: a1 :: a2 :: some (.int x) :: lv) := prs_mem.mpr rfl
  obtain ⟨k0, hk0⟩ := List.getElem?_of_mem hm
  have hn := Nat.lt_of_lt_of_le (show 3 < (a0 :: a1 :: a2 :: some (.int x) :: lv).length by simp) hl.2.2.2
  exact lv_iinc hC.1 hC.2.1 d hl.prs hk0 hv hn rfl (fun ls' h => k H locs ls' hP hS (hasL_set1 (lv := a0 :: a1 :: a2 :: some (.int x) :: lv) (i := 3) (v := .int v) (by simp) hl.2.2.2 hp h))
theorem v_lstore_4 (hC : cOK X R C cc own) {a0 a1 a2 a3 : Option Value} {b b2 : Option Value} {x : Int64} (hp : cat1 a3 = true) (d : decode cc pc = .ok (.lstore 4, 2)) (hq : pc + 2 = q) (k : V l X R C f q (a0 :: a1 :: a2 :: a3 :: some (.long x) :: none :: lv) st) : V l X R C f pc (a0 :: a1 :: a2 :: a3 :: b :: b2 :: lv) (.long x :: st) := by
  obtain ⟨p, e, s, m, args, below, meth, c, nL, Q, kc, ks⟩ := C
  subst hq
  intro H locs ls hP hS hl
  have hn := Nat.lt_of_lt_of_le (show 4 + 1 < (a0 :: a1 :: a2 :: a3 :: b :: b2 :: lv).length by simp) hl.2.2.2
  exact lv_lstore hC.1 hC.2.1 d hl.prs hn rfl (fun ls' h => k H locs ls' hP hS (hasL_set2 (lv := a0 :: a1 :: a2 :: a3 :: b :: b2 :: lv) (i := 4) (v := .long x) (by simp) hl.2.2.2 hp h))
theorem v_iinc_4 (hC : cOK X R C cc own) {a0 a1 a2 a3 : Option Value} {n : Int} {x v : Int32} (hp : cat1 a3 = true) (hv : x + Int32.ofInt n = v) (d : decode cc pc = .ok (.iinc 4 n, 3)) (hq : pc + 3 = q) (k : V l X R C f q (a0 :: a1 :: a2 :: a3 :: some (.int v) :: lv) st) : V l X R C f pc (a0 :: a1 :: a2 :: a3 :: some (.int x) :: lv) st := by
  obtain ⟨p, e, s, m, args, below, meth, c, nL, Q, kc, ks⟩ := C
  subst hq
  intro H locs ls hP hS hl
  have hm : (4, Value.int x) ∈ prs (a0 :: a1 :: a2 :: a3 :: some (.int x) :: lv) := prs_mem.mpr rfl
  obtain ⟨k0, hk0⟩ := List.getElem?_of_mem hm
  have hn := Nat.lt_of_lt_of_le (show 4 < (a0 :: a1 :: a2 :: a3 :: some (.int x) :: lv).length by simp) hl.2.2.2
  exact lv_iinc hC.1 hC.2.1 d hl.prs hk0 hv hn rfl (fun ls' h => k H locs ls' hP hS (hasL_set1 (lv := a0 :: a1 :: a2 :: a3 :: some (.int x) :: lv) (i := 4) (v := .int v) (by simp) hl.2.2.2 hp h))
theorem v_lstore_5 (hC : cOK X R C cc own) {a0 a1 a2 a3 a4 : Option Value} {b b2 : Option Value} {x : Int64} (hp : cat1 a4 = true) (d : decode cc pc = .ok (.lstore 5, 2)) (hq : pc + 2 = q) (k : V l X R C f q (a0 :: a1 :: a2 :: a3 :: a4 :: some (.long x) :: none :: lv) st) : V l X R C f pc (a0 :: a1 :: a2 :: a3 :: a4 :: b :: b2 :: lv) (.long x :: st) := by
  obtain ⟨p, e, s, m, args, below, meth, c, nL, Q, kc, ks⟩ := C
  subst hq
  intro H locs ls hP hS hl
  have hn := Nat.lt_of_lt_of_le (show 5 + 1 < (a0 :: a1 :: a2 :: a3 :: a4 :: b :: b2 :: lv).length by simp) hl.2.2.2
  exact lv_lstore hC.1 hC.2.1 d hl.prs hn rfl (fun ls' h => k H locs ls' hP hS (hasL_set2 (lv := a0 :: a1 :: a2 :: a3 :: a4 :: b :: b2 :: lv) (i := 5) (v := .long x) (by simp) hl.2.2.2 hp h))
theorem v_iinc_5 (hC : cOK X R C cc own) {a0 a1 a2 a3 a4 : Option Value} {n : Int} {x v : Int32} (hp : cat1 a4 = true) (hv : x + Int32.ofInt n = v) (d : decode cc pc = .ok (.iinc 5 n, 3)) (hq : pc + 3 = q) (k : V l X R C f q (a0 :: a1 :: a2 :: a3 :: a4 :: some (.int v) :: lv) st) : V l X R C f pc (a0 :: a1 :: a2 :: a3 :: a4 :: some (.int x) :: lv) st := by
  obtain ⟨p, e, s, m, args, below, meth, c, nL, Q, kc, ks⟩ := C
  subst hq
  intro H locs ls hP hS hl
  have hm : (5, Value.int x) ∈ prs (a0 :: a1 :: a2 :: a3 :: a4 :: some (.int x) :: lv) := prs_mem.mpr rfl
  obtain ⟨k0, hk0⟩ := List.getElem?_of_mem hm
  have hn := Nat.lt_of_lt_of_le (show 5 < (a0 :: a1 :: a2 :: a3 :: a4 :: some (.int x) :: lv).length by simp) hl.2.2.2
  exact lv_iinc hC.1 hC.2.1 d hl.prs hk0 hv hn rfl (fun ls' h => k H locs ls' hP hS (hasL_set1 (lv := a0 :: a1 :: a2 :: a3 :: a4 :: some (.int x) :: lv) (i := 5) (v := .int v) (by simp) hl.2.2.2 hp h))
theorem v_lstore_6 (hC : cOK X R C cc own) {a0 a1 a2 a3 a4 a5 : Option Value} {b b2 : Option Value} {x : Int64} (hp : cat1 a5 = true) (d : decode cc pc = .ok (.lstore 6, 2)) (hq : pc + 2 = q) (k : V l X R C f q (a0 :: a1 :: a2 :: a3 :: a4 :: a5 :: some (.long x) :: none :: lv) st) : V l X R C f pc (a0 :: a1 :: a2 :: a3 :: a4 :: a5 :: b :: b2 :: lv) (.long x :: st) := by
  obtain ⟨p, e, s, m, args, below, meth, c, nL, Q, kc, ks⟩ := C
  subst hq
  intro H locs ls hP hS hl
  have hn := Nat.lt_of_lt_of_le (show 6 + 1 < (a0 :: a1 :: a2 :: a3 :: a4 :: a5 :: b :: b2 :: lv).length by simp) hl.2.2.2
  exact lv_lstore hC.1 hC.2.1 d hl.prs hn rfl (fun ls' h => k H locs ls' hP hS (hasL_set2 (lv := a0 :: a1 :: a2 :: a3 :: a4 :: a5 :: b :: b2 :: lv) (i := 6) (v := .long x) (by simp) hl.2.2.2 hp h))
theorem v_iinc_6 (hC : cOK X R C cc own) {a0 a1 a2 a3 a4 a5 : Option Value} {n : Int} {x v : Int32} (hp : cat1 a5 = true) (hv : x + Int32.ofInt n = v) (d : decode cc pc = .ok (.iinc 6 n, 3)) (hq : pc + 3 = q) (k : V l X R C f q (a0 :: a1 :: a2 :: a3 :: a4 :: a5 :: some (.int v) :: lv) st) : V l X R C f pc (a0 :: a1 :: a2 :: a3 :: a4 :: a5 :: some (.int x) :: lv) st := by
  obtain ⟨p, e, s, m, args, below, meth, c, nL, Q, kc, ks⟩ := C
  subst hq
  intro H locs ls hP hS hl
  have hm : (6, Value.int x) ∈ prs (a0 :: a1 :: a2 :: a3 :: a4 :: a5 :: some (.int x) :: lv) := prs_mem.mpr rfl
  obtain ⟨k0, hk0⟩ := List.getElem?_of_mem hm
  have hn := Nat.lt_of_lt_of_le (show 6 < (a0 :: a1 :: a2 :: a3 :: a4 :: a5 :: some (.int x) :: lv).length by simp) hl.2.2.2
  exact lv_iinc hC.1 hC.2.1 d hl.prs hk0 hv hn rfl (fun ls' h => k H locs ls' hP hS (hasL_set1 (lv := a0 :: a1 :: a2 :: a3 :: a4 :: a5 :: some (.int x) :: lv) (i := 6) (v := .int v) (by simp) hl.2.2.2 hp h))
theorem v_lstore_7 (hC : cOK X R C cc own) {a0 a1 a2 a3 a4 a5 a6 : Option Value} {b b2 : Option Value} {x : Int64} (hp : cat1 a6 = true) (d : decode cc pc = .ok (.lstore 7, 2)) (hq : pc + 2 = q) (k : V l X R C f q (a0 :: a1 :: a2 :: a3 :: a4 :: a5 :: a6 :: some (.long x) :: none :: lv) st) : V l X R C f pc (a0 :: a1 :: a2 :: a3 :: a4 :: a5 :: a6 :: b :: b2 :: lv) (.long x :: st) := by
  obtain ⟨p, e, s, m, args, below, meth, c, nL, Q, kc, ks⟩ := C
  subst hq
  intro H locs ls hP hS hl
  have hn := Nat.lt_of_lt_of_le (show 7 + 1 < (a0 :: a1 :: a2 :: a3 :: a4 :: a5 :: a6 :: b :: b2 :: lv).length by simp) hl.2.2.2
  exact lv_lstore hC.1 hC.2.1 d hl.prs hn rfl (fun ls' h => k H locs ls' hP hS (hasL_set2 (lv := a0 :: a1 :: a2 :: a3 :: a4 :: a5 :: a6 :: b :: b2 :: lv) (i := 7) (v := .long x) (by simp) hl.2.2.2 hp h))
theorem v_iinc_7 (hC : cOK X R C cc own) {a0 a1 a2 a3 a4 a5 a6 : Option Value} {n : Int} {x v : Int32} (hp : cat1 a6 = true) (hv : x + Int32.ofInt n = v) (d : decode cc pc = .ok (.iinc 7 n, 3)) (hq : pc + 3 = q) (k : V l X R C f q (a0 :: a1 :: a2 :: a3 :: a4 :: a5 :: a6 :: some (.int v) :: lv) st) : V l X R C f pc (a0 :: a1 :: a2 :: a3 :: a4 :: a5 :: a6 :: some (.int x) :: lv) st := by
  obtain ⟨p, e, s, m, args, below, meth, c, nL, Q, kc, ks⟩ := C
  subst hq
  intro H locs ls hP hS hl
  have hm : (7, Value.int x) ∈ prs (a0 :: a1 :: a2 :: a3 :: a4 :: a5 :: a6 :: some (.int x) :: lv) := prs_mem.mpr rfl
  obtain ⟨k0, hk0⟩ := List.getElem?_of_mem hm
  have hn := Nat.lt_of_lt_of_le (show 7 < (a0 :: a1 :: a2 :: a3 :: a4 :: a5 :: a6 :: some (.int x) :: lv).length by simp) hl.2.2.2
  exact lv_iinc hC.1 hC.2.1 d hl.prs hk0 hv hn rfl (fun ls' h => k H locs ls' hP hS (hasL_set1 (lv := a0 :: a1 :: a2 :: a3 :: a4 :: a5 :: a6 :: some (.int x) :: lv) (i := 7) (v := .int v) (by simp) hl.2.2.2 hp h))
theorem v_lstore_8 (hC : cOK X R C cc own) {a0 a1 a2 a3 a4 a5 a6 a7 : Option Value} {b b2 : Option Value} {x : Int64} (hp : cat1 a7 = true) (d : decode cc pc = .ok (.lstore 8, 2)) (hq : pc + 2 = q) (k : V l X R C f q (a0 :: a1 :: a2 :: a3 :: a4 :: a5 :: a6 :: a7 :: some (.long x) :: none :: lv) st) : V l X R C f pc (a0 :: a1 :: a2 :: a3 :: a4 :: a5 :: a6 :: a7 :: b :: b2 :: lv) (.long x :: st) := by
  obtain ⟨p, e, s, m, args, below, meth, c, nL, Q, kc, ks⟩ := C
  subst hq
  intro H locs ls hP hS hl
  have hn := Nat.lt_of_lt_of_le (show 8 + 1 < (a0 :: a1 :: a2 :: a3 :: a4 :: a5 :: a6 :: a7 :: b :: b2 :: lv).length by simp) hl.2.2.2
  exact lv_lstore hC.1 hC.2.1 d hl.prs hn rfl (fun ls' h => k H locs ls' hP hS (hasL_set2 (lv := a0 :: a1 :: a2 :: a3 :: a4 :: a5 :: a6 :: a7 :: b :: b2 :: lv) (i := 8) (v := .long x) (by simp) hl.2.2.2 hp h))
theorem v_iinc_8 (hC : cOK X R C cc own) {a0 a1 a2 a3 a4 a5 a6 a7 : Option Value} {n : Int} {x v : Int32} (hp : cat1 a7 = true) (hv : x + Int32.ofInt n = v) (d : decode cc pc = .ok (.iinc 8 n, 3)) (hq : pc + 3 = q) (k : V l X R C f q (a0 :: a1 :: a2 :: a3 :: a4 :: a5 :: a6 :: a7 :: some (.int v) :: lv) st) : V l X R C f pc (a0 :: a1 :: a2 :: a3 :: a4 :: a5 :: a6 :: a7 :: some (.int x) :: lv) st := by
  obtain ⟨p, e, s, m, args, below, meth, c, nL, Q, kc, ks⟩ := C
  subst hq
  intro H locs ls hP hS hl
  have hm : (8, Value.int x) ∈ prs (a0 :: a1 :: a2 :: a3 :: a4 :: a5 :: a6 :: a7 :: some (.int x) :: lv) := prs_mem.mpr rfl
  obtain ⟨k0, hk0⟩ := List.getElem?_of_mem hm
  have hn := Nat.lt_of_lt_of_le (show 8 < (a0 :: a1 :: a2 :: a3 :: a4 :: a5 :: a6 :: a7 :: some (.int x) :: lv).length by simp) hl.2.2.2
  exact lv_iinc hC.1 hC.2.1 d hl.prs hk0 hv hn rfl (fun ls' h => k H locs ls' hP hS (hasL_set1 (lv := a0 :: a1 :: a2 :: a3 :: a4 :: a5 :: a6 :: a7 :: some (.int x) :: lv) (i := 8) (v := .int v) (by simp) hl.2.2.2 hp h))
theorem v_lstore_9 (hC : cOK X R C cc own) {a0 a1 a2 a3 a4 a5 a6 a7 a8 : Option Value} {b b2 : Option Value} {x : Int64} (hp : cat1 a8 = true) (d : decode cc pc = .ok (.lstore 9, 2)) (hq : pc + 2 = q) (k : V l X R C f q (a0 :: a1 :: a2 :: a3 :: a4 :: a5 :: a6 :: a7 :: a8 :: some (.long x) :: none :: lv) st) : V l X R C f pc (a0 :: a1 :: a2 :: a3 :: a4 :: a5 :: a6 :: a7 :: a8 :: b :: b2 :: lv) (.long x :: st) := by
  obtain ⟨p, e, s, m, args, below, meth, c, nL, Q, kc, ks⟩ := C
  subst hq
  intro H locs ls hP hS hl
  have hn := Nat.lt_of_lt_of_le (show 9 + 1 < (a0 :: a1 :: a2 :: a3 :: a4 :: a5 :: a6 :: a7 :: a8 :: b :: b2 :: lv).length by simp) hl.2.2.2
  exact lv_lstore hC.1 hC.2.1 d hl.prs hn rfl (fun ls' h => k H locs ls' hP hS (hasL_set2 (lv := a0 :: a1 :: a2 :: a3 :: a4 :: a5 :: a6 :: a7 :: a8 :: b :: b2 :: lv) (i := 9) (v := .long x) (by simp) hl.2.2.2 hp h))
theorem v_iinc_9 (hC : cOK X R C cc own) {a0 a1 a2 a3 a4 a5 a6 a7 a8 : Option Value} {n : Int} {x v : Int32} (hp : cat1 a8 = true) (hv : x + Int32.ofInt n = v) (d : decode cc pc = .ok (.iinc 9 n, 3)) (hq : pc + 3 = q) (k : V l X R C f q (a0 :: a1 :: a2 :: a3 :: a4 :: a5 :: a6 :: a7 :: a8 :: some (.int v) :: lv) st) : V l X R C f pc (a0 :: a1 :: a2 :: a3 :: a4 :: a5 :: a6 :: a7 :: a8 :: some (.int x) :: lv) st := by
  obtain ⟨p, e, s, m, args, below, meth, c, nL, Q, kc, ks⟩ := C
  subst hq
  intro H locs ls hP hS hl
  have hm : (9, Value.int x) ∈ prs (a0 :: a1 :: a2 :: a3 :: a4 :: a5 :: a6 :: a7 :: a8 :: some (.int x) :: lv) := prs_mem.mpr rfl
  obtain ⟨k0, hk0⟩ := List.getElem?_of_mem hm
  have hn := Nat.lt_of_lt_of_le (show 9 < (a0 :: a1 :: a2 :: a3 :: a4 :: a5 :: a6 :: a7 :: a8 :: some (.int x) :: lv).length by simp) hl.2.2.2
  exact lv_iinc hC.1 hC.2.1 d hl.prs hk0 hv hn rfl (fun ls' h => k H locs ls' hP hS (hasL_set1 (lv := a0 :: a1 :: a2 :: a3 :: a4 :: a5 :: a6 :: a7 :: a8 :: some (.int x) :: lv) (i := 9) (v := .int v) (by simp) hl.2.2.2 hp h))
theorem v_lstore_10 (hC : cOK X R C cc own) {a0 a1 a2 a3 a4 a5 a6 a7 a8 a9 : Option Value} {b b2 : Option Value} {x : Int64} (hp : cat1 a9 = true) (d : decode cc pc = .ok (.lstore 10, 2)) (hq : pc + 2 = q) (k : V l X R C f q (a0 :: a1 :: a2 :: a3 :: a4 :: a5 :: a6 :: a7 :: a8 :: a9 :: some (.long x) :: none :: lv) st) : V l X R C f pc (a0 :: a1 :: a2 :: a3 :: a4 :: a5 :: a6 :: a7 :: a8 :: a9 :: b :: b2 :: lv) (.long x :: st) := by
  obtain ⟨p, e, s, m, args, below, meth, c, nL, Q, kc, ks⟩ := C
  subst hq
  intro H locs ls hP hS hl
  have hn := Nat.lt_of_lt_of_le (show 10 + 1 < (a0 :: a1 :: a2 :: a3 :: a4 :: a5 :: a6 :: a7 :: a8 :: a9 :: b :: b2 :: lv).length by simp) hl.2.2.2
  exact lv_lstore hC.1 hC.2.1 d hl.prs hn rfl (fun ls' h => k H locs ls' hP hS (hasL_set2 (lv := a0 :: a1 :: a2 :: a3 :: a4 :: a5 :: a6 :: a7 :: a8 :: a9 :: b :: b2 :: lv) (i := 10) (v := .long x) (by simp) hl.2.2.2 hp h))
theorem v_iinc_10 (hC : cOK X R C cc own) {a0 a1 a2 a3 a4 a5 a6 a7 a8 a9 : Option Value} {n : Int} {x v : Int32} (hp : cat1 a9 = true) (hv : x + Int32.ofInt n = v) (d : decode cc pc = .ok (.iinc 10 n, 3)) (hq : pc + 3 = q) (k : V l X R C f q (a0 :: a1 :: a2 :: a3 :: a4 :: a5 :: a6 :: a7 :: a8 :: a9 :: some (.int v) :: lv) st) : V l X R C f pc (a0 :: a1 :: a2 :: a3 :: a4 :: a5 :: a6 :: a7 :: a8 :: a9 :: some (.int x) :: lv) st := by
  obtain ⟨p, e, s, m, args, below, meth, c, nL, Q, kc, ks⟩ := C
  subst hq
  intro H locs ls hP hS hl
  have hm : (10, Value.int x) ∈ prs (a0 :: a1 :: a2 :: a3 :: a4 :: a5 :: a6 :: a7 :: a8 :: a9 :: some (.int x) :: lv) := prs_mem.mpr rfl
  obtain ⟨k0, hk0⟩ := List.getElem?_of_mem hm
  have hn := Nat.lt_of_lt_of_le (show 10 < (a0 :: a1 :: a2 :: a3 :: a4 :: a5 :: a6 :: a7 :: a8 :: a9 :: some (.int x) :: lv).length by simp) hl.2.2.2
  exact lv_iinc hC.1 hC.2.1 d hl.prs hk0 hv hn rfl (fun ls' h => k H locs ls' hP hS (hasL_set1 (lv := a0 :: a1 :: a2 :: a3 :: a4 :: a5 :: a6 :: a7 :: a8 :: a9 :: some (.int x) :: lv) (i := 10) (v := .int v) (by simp) hl.2.2.2 hp h))
theorem v_lstore_11 (hC : cOK X R C cc own) {a0 a1 a2 a3 a4 a5 a6 a7 a8 a9 a10 : Option Value} {b b2 : Option Value} {x : Int64} (hp : cat1 a10 = true) (d : decode cc pc = .ok (.lstore 11, 2)) (hq : pc + 2 = q) (k : V l X R C f q (a0 :: a1 :: a2 :: a3 :: a4 :: a5 :: a6 :: a7 :: a8 :: a9 :: a10 :: some (.long x) :: none :: lv) st) : V l X R C f pc (a0 :: a1 :: a2 :: a3 :: a4 :: a5 :: a6 :: a7 :: a8 :: a9 :: a10 :: b :: b2 :: lv) (.long x :: st) := by
  obtain ⟨p, e, s, m, args, below, meth, c, nL, Q, kc, ks⟩ := C
  subst hq
  intro H locs ls hP hS hl
  have hn := Nat.lt_of_lt_of_le (show 11 + 1 < (a0 :: a1 :: a2 :: a3 :: a4 :: a5 :: a6 :: a7 :: a8 :: a9 :: a10 :: b :: b2 :: lv).length by simp) hl.2.2.2
  exact lv_lstore hC.1 hC.2.1 d hl.prs hn rfl (fun ls' h => k H locs ls' hP hS (hasL_set2 (lv := a0 :: a1 :: a2 :: a3 :: a4 :: a5 :: a6 :: a7 :: a8 :: a9 :: a10 :: b :: b2 :: lv) (i := 11) (v := .long x) (by simp) hl.2.2.2 hp h))
theorem v_iinc_11 (hC : cOK X R C cc own) {a0 a1 a2 a3 a4 a5 a6 a7 a8 a9 a10 : Option Value} {n : Int} {x v : Int32} (hp : cat1 a10 = true) (hv : x + Int32.ofInt n = v) (d : decode cc pc = .ok (.iinc 11 n, 3)) (hq : pc + 3 = q) (k : V l X R C f q (a0 :: a1 :: a2 :: a3 :: a4 :: a5 :: a6 :: a7 :: a8 :: a9 :: a10 :: some (.int v) :: lv) st) : V l X R C f pc (a0 :: a1 :: a2 :: a3 :: a4 :: a5 :: a6 :: a7 :: a8 :: a9 :: a10 :: some (.int x) :: lv) st := by
  obtain ⟨p, e, s, m, args, below, meth, c, nL, Q, kc, ks⟩ := C
  subst hq
  intro H locs ls hP hS hl
  have hm : (11, Value.int x) ∈ prs (a0 :: a1 :: a2 :: a3 :: a4 :: a5 :: a6 :: a7 :: a8 :: a9 :: a10 :: some (.int x) :: lv) := prs_mem.mpr rfl
  obtain ⟨k0, hk0⟩ := List.getElem?_of_mem hm
  have hn := Nat.lt_of_lt_of_le (show 11 < (a0 :: a1 :: a2 :: a3 :: a4 :: a5 :: a6 :: a7 :: a8 :: a9 :: a10 :: some (.int x) :: lv).length by simp) hl.2.2.2
  exact lv_iinc hC.1 hC.2.1 d hl.prs hk0 hv hn rfl (fun ls' h => k H locs ls' hP hS (hasL_set1 (lv := a0 :: a1 :: a2 :: a3 :: a4 :: a5 :: a6 :: a7 :: a8 :: a9 :: a10 :: some (.int x) :: lv) (i := 11) (v := .int v) (by simp) hl.2.2.2 hp h))
theorem v_iadd (hC : cOK X R C cc own) {x y : Int32} (d : decode cc pc = .ok (.iadd, 1)) (hq : pc + 1 = q) (k : V l X R C f q lv (.int (x + y) :: st)) : V l X R C f pc lv (.int y :: .int x :: st) := by
  obtain ⟨p, e, s, m, args, below, meth, c, nL, Q, kc, ks⟩ := C
  subst hq
  intro H locs ls hP hS hl
  exact lv_iadd hC.1 hC.2.1 d (k H locs ls hP hS hl)
theorem v_isub (hC : cOK X R C cc own) {x y : Int32} (d : decode cc pc = .ok (.isub, 1)) (hq : pc + 1 = q) (k : V l X R C f q lv (.int (x - y) :: st)) : V l X R C f pc lv (.int y :: .int x :: st) := by
  obtain ⟨p, e, s, m, args, below, meth, c, nL, Q, kc, ks⟩ := C
  subst hq
  intro H locs ls hP hS hl
  exact lv_isub hC.1 hC.2.1 d (k H locs ls hP hS hl)
theorem v_imul (hC : cOK X R C cc own) {x y : Int32} (d : decode cc pc = .ok (.imul, 1)) (hq : pc + 1 = q) (k : V l X R C f q lv (.int (x * y) :: st)) : V l X R C f pc lv (.int y :: .int x :: st) := by
  obtain ⟨p, e, s, m, args, below, meth, c, nL, Q, kc, ks⟩ := C
  subst hq
  intro H locs ls hP hS hl
  exact lv_imul hC.1 hC.2.1 d (k H locs ls hP hS hl)
theorem v_iand (hC : cOK X R C cc own) {x y : Int32} (d : decode cc pc = .ok (.iand, 1)) (hq : pc + 1 = q) (k : V l X R C f q lv (.int (x &&& y) :: st)) : V l X R C f pc lv (.int y :: .int x :: st) := by
  obtain ⟨p, e, s, m, args, below, meth, c, nL, Q, kc, ks⟩ := C
  subst hq
  intro H locs ls hP hS hl
  exact lv_iand hC.1 hC.2.1 d (k H locs ls hP hS hl)
theorem v_ior (hC : cOK X R C cc own) {x y : Int32} (d : decode cc pc = .ok (.ior, 1)) (hq : pc + 1 = q) (k : V l X R C f q lv (.int (x ||| y) :: st)) : V l X R C f pc lv (.int y :: .int x :: st) := by
  obtain ⟨p, e, s, m, args, below, meth, c, nL, Q, kc, ks⟩ := C
  subst hq
  intro H locs ls hP hS hl
  exact lv_ior hC.1 hC.2.1 d (k H locs ls hP hS hl)
theorem v_ixor (hC : cOK X R C cc own) {x y : Int32} (d : decode cc pc = .ok (.ixor, 1)) (hq : pc + 1 = q) (k : V l X R C f q lv (.int (x ^^^ y) :: st)) : V l X R C f pc lv (.int y :: .int x :: st) := by
  obtain ⟨p, e, s, m, args, below, meth, c, nL, Q, kc, ks⟩ := C
  subst hq
  intro H locs ls hP hS hl
  exact lv_ixor hC.1 hC.2.1 d (k H locs ls hP hS hl)
theorem v_ishl (hC : cOK X R C cc own) {x y : Int32} (d : decode cc pc = .ok (.ishl, 1)) (hq : pc + 1 = q) (k : V l X R C f q lv (.int (x <<< (y &&& 31)) :: st)) : V l X R C f pc lv (.int y :: .int x :: st) := by
  obtain ⟨p, e, s, m, args, below, meth, c, nL, Q, kc, ks⟩ := C
  subst hq
  intro H locs ls hP hS hl
  exact lv_ishl hC.1 hC.2.1 d (k H locs ls hP hS hl)
theorem v_ishr (hC : cOK X R C cc own) {x y : Int32} (d : decode cc pc = .ok (.ishr, 1)) (hq : pc + 1 = q) (k : V l X R C f q lv (.int (x >>> (y &&& 31)) :: st)) : V l X R C f pc lv (.int y :: .int x :: st) := by
  obtain ⟨p, e, s, m, args, below, meth, c, nL, Q, kc, ks⟩ := C
  subst hq
  intro H locs ls hP hS hl
  exact lv_ishr hC.1 hC.2.1 d (k H locs ls hP hS hl)
theorem v_iushr (hC : cOK X R C cc own) {x y : Int32} (d : decode cc pc = .ok (.iushr, 1)) (hq : pc + 1 = q) (k : V l X R C f q lv (.int ((x.toUInt32 >>> (y.toUInt32 &&& Int32.toUInt32 31)).toInt32) :: st)) : V l X R C f pc lv (.int y :: .int x :: st) := by
  obtain ⟨p, e, s, m, args, below, meth, c, nL, Q, kc, ks⟩ := C
  subst hq
  intro H locs ls hP hS hl
  exact lv_iushr hC.1 hC.2.1 d rfl (k H locs ls hP hS hl)
theorem v_idiv (hC : cOK X R C cc own) {x y : Int32} (hne : ¬ y = 0) (d : decode cc pc = .ok (.idiv, 1)) (hq : pc + 1 = q) (k : V l X R C f q lv (.int (x / y) :: st)) : V l X R C f pc lv (.int y :: .int x :: st) := by
  obtain ⟨p, e, s, m, args, below, meth, c, nL, Q, kc, ks⟩ := C
  subst hq
  intro H locs ls hP hS hl
  exact lv_idiv hC.1 hC.2.1 d hne (k H locs ls hP hS hl)
theorem v_irem (hC : cOK X R C cc own) {x y : Int32} (hne : ¬ y = 0) (d : decode cc pc = .ok (.irem, 1)) (hq : pc + 1 = q) (k : V l X R C f q lv (.int (x - x / y * y) :: st)) : V l X R C f pc lv (.int y :: .int x :: st) := by
  obtain ⟨p, e, s, m, args, below, meth, c, nL, Q, kc, ks⟩ := C
  subst hq
  intro H locs ls hP hS hl
  exact lv_irem hC.1 hC.2.1 d hne (k H locs ls hP hS hl)
theorem v_land (hC : cOK X R C cc own) {x y : Int64} (d : decode cc pc = .ok (.land, 1)) (hq : pc + 1 = q) (k : V l X R C f q lv (.long (x &&& y) :: st)) : V l X R C f pc lv (.long y :: .long x :: st) := by
  obtain ⟨p, e, s, m, args, below, meth, c, nL, Q, kc, ks⟩ := C
  subst hq
  intro H locs ls hP hS hl
  exact lv_land hC.1 hC.2.1 d (k H locs ls hP hS hl)
theorem v_lor (hC : cOK X R C cc own) {x y : Int64} (d : decode cc pc = .ok (.lor, 1)) (hq : pc + 1 = q) (k : V l X R C f q lv (.long (x ||| y) :: st)) : V l X R C f pc lv (.long y :: .long x :: st) := by
  obtain ⟨p, e, s, m, args, below, meth, c, nL, Q, kc, ks⟩ := C
  subst hq
  intro H locs ls hP hS hl
  exact lv_lor hC.1 hC.2.1 d (k H locs ls hP hS hl)
theorem v_lshl (hC : cOK X R C cc own) {x : Int64} {y : Int32} (d : decode cc pc = .ok (.lshl, 1)) (hq : pc + 1 = q) (k : V l X R C f q lv (.long (x <<< (y.toInt64 &&& 63)) :: st)) : V l X R C f pc lv (.int y :: .long x :: st) := by
  obtain ⟨p, e, s, m, args, below, meth, c, nL, Q, kc, ks⟩ := C
  subst hq
  intro H locs ls hP hS hl
  exact lv_lshl hC.1 hC.2.1 d rfl (k H locs ls hP hS hl)
theorem v_lcmp (hC : cOK X R C cc own) {x y : Int64} (d : decode cc pc = .ok (.lcmp, 1)) (hq : pc + 1 = q) (k : V l X R C f q lv (.int (lg_cmp x y) :: st)) : V l X R C f pc lv (.long y :: .long x :: st) := by
  obtain ⟨p, e, s, m, args, below, meth, c, nL, Q, kc, ks⟩ := C
  subst hq
  intro H locs ls hP hS hl
  exact W.lcmp hC.1 hC.2.1 d (k H locs ls hP hS hl)
theorem v_i2l (hC : cOK X R C cc own) {x : Int32} (d : decode cc pc = .ok (.i2l, 1)) (hq : pc + 1 = q) (k : V l X R C f q lv (.long x.toInt64 :: st)) : V l X R C f pc lv (.int x :: st) := by
  obtain ⟨p, e, s, m, args, below, meth, c, nL, Q, kc, ks⟩ := C
  subst hq
  intro H locs ls hP hS hl
  exact lv_i2l hC.1 hC.2.1 d rfl (k H locs ls hP hS hl)
theorem v_l2i (hC : cOK X R C cc own) {x : Int64} (d : decode cc pc = .ok (.l2i, 1)) (hq : pc + 1 = q) (k : V l X R C f q lv (.int x.toInt32 :: st)) : V l X R C f pc lv (.long x :: st) := by
  obtain ⟨p, e, s, m, args, below, meth, c, nL, Q, kc, ks⟩ := C
  subst hq
  intro H locs ls hP hS hl
  exact lv_l2i hC.1 hC.2.1 d rfl (k H locs ls hP hS hl)
theorem v_i2b (hC : cOK X R C cc own) {x : Int32} (d : decode cc pc = .ok (.i2b, 1)) (hq : pc + 1 = q) (k : V l X R C f q lv (.int x.toInt8.toInt32 :: st)) : V l X R C f pc lv (.int x :: st) := by
  obtain ⟨p, e, s, m, args, below, meth, c, nL, Q, kc, ks⟩ := C
  subst hq
  intro H locs ls hP hS hl
  exact lv_i2b hC.1 hC.2.1 d rfl (k H locs ls hP hS hl)
theorem v_i2s (hC : cOK X R C cc own) {x : Int32} (d : decode cc pc = .ok (.i2s, 1)) (hq : pc + 1 = q) (k : V l X R C f q lv (.int x.toInt16.toInt32 :: st)) : V l X R C f pc lv (.int x :: st) := by
  obtain ⟨p, e, s, m, args, below, meth, c, nL, Q, kc, ks⟩ := C
  subst hq
  intro H locs ls hP hS hl
  exact lv_i2s hC.1 hC.2.1 d rfl (k H locs ls hP hS hl)
theorem v_i2c (hC : cOK X R C cc own) {x : Int32} (d : decode cc pc = .ok (.i2c, 1)) (hq : pc + 1 = q) (k : V l X R C f q lv (.int (x.toUInt32 % 65536).toInt32 :: st)) : V l X R C f pc lv (.int x :: st) := by
  obtain ⟨p, e, s, m, args, below, meth, c, nL, Q, kc, ks⟩ := C
  subst hq
  intro H locs ls hP hS hl
  exact lv_i2c hC.1 hC.2.1 d rfl (k H locs ls hP hS hl)
theorem v_dup (hC : cOK X R C cc own) {va : Value} (hva : va.category = 1) (d : decode cc pc = .ok (.dup, 1)) (hq : pc + 1 = q) (k : V l X R C f q lv (va :: va :: st)) : V l X R C f pc lv (va :: st) := by
  obtain ⟨p, e, s, m, args, below, meth, c, nL, Q, kc, ks⟩ := C
  subst hq
  intro H locs ls hP hS hl
  exact lv_dup hC.1 hC.2.1 d hva (k H locs ls hP hS hl)
theorem v_dup2 (hC : cOK X R C cc own) {va vb : Value} (hva : va.category = 1) (hvb : vb.category = 1) (d : decode cc pc = .ok (.dup2, 1)) (hq : pc + 1 = q) (k : V l X R C f q lv (va :: vb :: va :: vb :: st)) : V l X R C f pc lv (va :: vb :: st) := by
  obtain ⟨p, e, s, m, args, below, meth, c, nL, Q, kc, ks⟩ := C
  subst hq
  intro H locs ls hP hS hl
  exact lv_dup2_11 hC.1 hC.2.1 d hva hvb (k H locs ls hP hS hl)
theorem v_pop (hC : cOK X R C cc own) {va : Value} (hva : va.category = 1) (d : decode cc pc = .ok (.pop, 1)) (hq : pc + 1 = q) (k : V l X R C f q lv (st)) : V l X R C f pc lv (va :: st) := by
  obtain ⟨p, e, s, m, args, below, meth, c, nL, Q, kc, ks⟩ := C
  subst hq
  intro H locs ls hP hS hl
  exact lv_pop hC.1 hC.2.1 d hva (k H locs ls hP hS hl)
theorem v_if_eq (hC : cOK X R C cc own) {x : Int32} {off : Int} (d : decode cc pc = .ok (.ifCond .eq off, 3)) (ht : (pc : Int) + off = (t : Int)) (hq : pc + 3 = q) (kt : x = 0 → V l X R C f t lv st) (kf : ¬ x = 0 → V l X R C f q lv st) : V l X R C f pc lv (.int x :: st) := by
  obtain ⟨p, e, s, m, args, below, meth, c, nL, Q, kc, ks⟩ := C
  subst hq
  intro H locs ls hP hS hl
  exact lv_if_eq hC.1 hC.2.1 d ht (fun h => kt h H locs ls hP hS hl) (fun h => kf h H locs ls hP hS hl)
theorem v_icmp_eq (hC : cOK X R C cc own) {x y : Int32} {off : Int} (d : decode cc pc = .ok (.if_icmp .eq off, 3)) (ht : (pc : Int) + off = (t : Int)) (hq : pc + 3 = q) (kt : x = y → V l X R C f t lv st) (kf : ¬ x = y → V l X R C f q lv st) : V l X R C f pc lv (.int y :: .int x :: st) := by
  obtain ⟨p, e, s, m, args, below, meth, c, nL, Q, kc, ks⟩ := C
  subst hq
  intro H locs ls hP hS hl
  exact lv_icmp_eq hC.1 hC.2.1 d ht (fun h => kt h H locs ls hP hS hl) (fun h => kf h H locs ls hP hS hl)
theorem v_if_ne (hC : cOK X R C cc own) {x : Int32} {off : Int} (d : decode cc pc = .ok (.ifCond .ne off, 3)) (ht : (pc : Int) + off = (t : Int)) (hq : pc + 3 = q) (kt : ¬ x = 0 → V l X R C f t lv st) (kf : x = 0 → V l X R C f q lv st) : V l X R C f pc lv (.int x :: st) := by
  obtain ⟨p, e, s, m, args, below, meth, c, nL, Q, kc, ks⟩ := C
  subst hq
  intro H locs ls hP hS hl
  exact lv_if_ne hC.1 hC.2.1 d ht (fun h => kt h H locs ls hP hS hl) (fun h => kf h H locs ls hP hS hl)
theorem v_icmp_ne (hC : cOK X R C cc own) {x y : Int32} {off : Int} (d : decode cc pc = .ok (.if_icmp .ne off, 3)) (ht : (pc : Int) + off = (t : Int)) (hq : pc + 3 = q) (kt : ¬ x = y → V l X R C f t lv st) (kf : x = y → V l X R C f q lv st) : V l X R C f pc lv (.int y :: .int x :: st) := by
  obtain ⟨p, e, s, m, args, below, meth, c, nL, Q, kc, ks⟩ := C
  subst hq
  intro H locs ls hP hS hl
  exact lv_icmp_ne hC.1 hC.2.1 d ht (fun h => kt h H locs ls hP hS hl) (fun h => kf h H locs ls hP hS hl)
theorem v_if_lt (hC : cOK X R C cc own) {x : Int32} {off : Int} (d : decode cc pc = .ok (.ifCond .lt off, 3)) (ht : (pc : Int) + off = (t : Int)) (hq : pc + 3 = q) (kt : x < 0 → V l X R C f t lv st) (kf : ¬ x < 0 → V l X R C f q lv st) : V l X R C f pc lv (.int x :: st) := by
  obtain ⟨p, e, s, m, args, below, meth, c, nL, Q, kc, ks⟩ := C
  subst hq
  intro H locs ls hP hS hl
  exact lv_if_lt hC.1 hC.2.1 d ht (fun h => kt h H locs ls hP hS hl) (fun h => kf h H locs ls hP hS hl)
theorem v_icmp_lt (hC : cOK X R C cc own) {x y : Int32} {off : Int} (d : decode cc pc = .ok (.if_icmp .lt off, 3)) (ht : (pc : Int) + off = (t : Int)) (hq : pc + 3 = q) (kt : x < y → V l X R C f t lv st) (kf : ¬ x < y → V l X R C f q lv st) : V l X R C f pc lv (.int y :: .int x :: st) := by
  obtain ⟨p, e, s, m, args, below, meth, c, nL, Q, kc, ks⟩ := C
  subst hq
  intro H locs ls hP hS hl
  exact lv_icmp_lt hC.1 hC.2.1 d ht (fun h => kt h H locs ls hP hS hl) (fun h => kf h H locs ls hP hS hl)
theorem v_if_ge (hC : cOK X R C cc own) {x : Int32} {off : Int} (d : decode cc pc = .ok (.ifCond .ge off, 3)) (ht : (pc : Int) + off = (t : Int)) (hq : pc + 3 = q) (kt : 0 ≤ x → V l X R C f t lv st) (kf : ¬ 0 ≤ x → V l X R C f q lv st) : V l X R C f pc lv (.int x :: st) := by
  obtain ⟨p, e, s, m, args, below, meth, c, nL, Q, kc, ks⟩ := C
  subst hq
  intro H locs ls hP hS hl
  exact lv_if_ge hC.1 hC.2.1 d ht (fun h => kt h H locs ls hP hS hl) (fun h => kf h H locs ls hP hS hl)
theorem v_icmp_ge (hC : cOK X R C cc own) {x y : Int32} {off : Int} (d : decode cc pc = .ok (.if_icmp .ge off, 3)) (ht : (pc : Int) + off = (t : Int)) (hq : pc + 3 = q) (kt : y ≤ x → V l X R C f t lv st) (kf : ¬ y ≤ x → V l X R C f q lv st) : V l X R C f pc lv (.int y :: .int x :: st) := by
  obtain ⟨p, e, s, m, args, below, meth, c, nL, Q, kc, ks⟩ := C
  subst hq
  intro H locs ls hP hS hl
  exact lv_icmp_ge hC.1 hC.2.1 d ht (fun h => kt h H locs ls hP hS hl) (fun h => kf h H locs ls hP hS hl)
theorem v_if_gt (hC : cOK X R C cc own) {x : Int32} {off : Int} (d : decode cc pc = .ok (.ifCond .gt off, 3)) (ht : (pc : Int) + off = (t : Int)) (hq : pc + 3 = q) (kt : 0 < x → V l X R C f t lv st) (kf : ¬ 0 < x → V l X R C f q lv st) : V l X R C f pc lv (.int x :: st) := by
  obtain ⟨p, e, s, m, args, below, meth, c, nL, Q, kc, ks⟩ := C
  subst hq
  intro H locs ls hP hS hl
  exact lv_if_gt hC.1 hC.2.1 d ht (fun h => kt h H locs ls hP hS hl) (fun h => kf h H locs ls hP hS hl)
theorem v_icmp_gt (hC : cOK X R C cc own) {x y : Int32} {off : Int} (d : decode cc pc = .ok (.if_icmp .gt off, 3)) (ht : (pc : Int) + off = (t : Int)) (hq : pc + 3 = q) (kt : y < x → V l X R C f t lv st) (kf : ¬ y < x → V l X R C f q lv st) : V l X R C f pc lv (.int y :: .int x :: st) := by
  obtain ⟨p, e, s, m, args, below, meth, c, nL, Q, kc, ks⟩ := C
  subst hq
  intro H locs ls hP hS hl
  exact lv_icmp_gt hC.1 hC.2.1 d ht (fun h => kt h H locs ls hP hS hl) (fun h => kf h H locs ls hP hS hl)
theorem v_if_le (hC : cOK X R C cc own) {x : Int32} {off : Int} (d : decode cc pc = .ok (.ifCond .le off, 3)) (ht : (pc : Int) + off = (t : Int)) (hq : pc + 3 = q) (kt : x ≤ 0 → V l X R C f t lv st) (kf : ¬ x ≤ 0 → V l X R C f q lv st) : V l X R C f pc lv (.int x :: st) := by
  obtain ⟨p, e, s, m, args, below, meth, c, nL, Q, kc, ks⟩ := C
  subst hq
  intro H locs ls hP hS hl
  exact lv_if_le hC.1 hC.2.1 d ht (fun h => kt h H locs ls hP hS hl) (fun h => kf h H locs ls hP hS hl)
theorem v_icmp_le (hC : cOK X R C cc own) {x y : Int32} {off : Int} (d : decode cc pc = .ok (.if_icmp .le off, 3)) (ht : (pc : Int) + off = (t : Int)) (hq : pc + 3 = q) (kt : x ≤ y → V l X R C f t lv st) (kf : ¬ x ≤ y → V l X R C f q lv st) : V l X R C f pc lv (.int y :: .int x :: st) := by
  obtain ⟨p, e, s, m, args, below, meth, c, nL, Q, kc, ks⟩ := C
  subst hq
  intro H locs ls hP hS hl
  exact lv_icmp_le hC.1 hC.2.1 d ht (fun h => kt h H locs ls hP hS hl) (fun h => kf h H locs ls hP hS hl)
theorem v_goto (hC : cOK X R C cc own) {off : Int} (d : decode cc pc = .ok (.goto off, 3)) (ht : (pc : Int) + off = (t : Int)) (k : V l X R C f t lv st) : V l X R C f pc lv st := by
  obtain ⟨p, e, s, m, args, below, meth, c, nL, Q, kc, ks⟩ := C
  intro H locs ls hP hS hl
  exact lv_goto hC.1 hC.2.1 d ht (k H locs ls hP hS hl)
theorem v_tin (hC : cOK X R C cc own) {dflt lo hi : Int} {offs : Array Int} {len : Nat} {x : Int32} {off : Int} (d : decode cc pc = .ok (.tableswitch dflt lo hi offs, len)) (h1 : ¬ x.toInt < lo) (h2 : ¬ hi < x.toInt) (ho : offs[(x.toInt - lo).toNat]? = some off) (ht : (pc : Int) + off = (t : Int)) (k : V l X R C f t lv st) : V l X R C f pc lv (.int x :: st) := by
  obtain ⟨p, e, s, m, args, below, meth, c, nL, Q, kc, ks⟩ := C
  intro H locs ls hP hS hl
  exact lv_tableIn hC.1 hC.2.1 d h1 h2 ho ht (k H locs ls hP hS hl)
theorem v_tout (hC : cOK X R C cc own) {dflt lo hi : Int} {offs : Array Int} {len : Nat} {x : Int32} (d : decode cc pc = .ok (.tableswitch dflt lo hi offs, len)) (h : x.toInt < lo ∨ hi < x.toInt) (ht : (pc : Int) + dflt = (t : Int)) (k : V l X R C f t lv st) : V l X R C f pc lv (.int x :: st) := by
  obtain ⟨p, e, s, m, args, below, meth, c, nL, Q, kc, ks⟩ := C
  intro H locs ls hP hS hl
  exact lv_tableOut hC.1 hC.2.1 d h ht (k H locs ls hP hS hl)
theorem v_ldc (hC : cOK X R C cc own) {idx : Nat} {v : Int32} (hw : Cond.constant own idx v ∈ tG) (d : decode cc pc = .ok (.ldc idx, 2)) (hq : pc + 2 = q) (k : V l X R C f q lv (.int v :: st)) : V l X R C f pc lv (st) := by
  obtain ⟨p, e, s, m, args, below, meth, c, nL, Q, kc, ks⟩ := C
  subst hq
  intro H locs ls hP hS hl
  exact lv_ldc hC.1 hC.2.1 hC.2.2.2.1 (hC.2.2.2.2.1 _ hw) d (k H locs ls hP hS hl)
theorem v_ldcw (hC : cOK X R C cc own) {idx : Nat} {v : Int32} (hw : Cond.constant own idx v ∈ tG) (d : decode cc pc = .ok (.ldc_w idx, 3)) (hq : pc + 3 = q) (k : V l X R C f q lv (.int v :: st)) : V l X R C f pc lv (st) := by
  obtain ⟨p, e, s, m, args, below, meth, c, nL, Q, kc, ks⟩ := C
  subst hq
  intro H locs ls hP hS hl
  exact lv_ldcw hC.1 hC.2.1 hC.2.2.2.1 (hC.2.2.2.2.1 _ hw) d (k H locs ls hP hS hl)
theorem v_ldc2 (hC : cOK X R C cc own) {idx : Nat} {v : Int64} (hw : Cond.constantLong own idx v ∈ tG) (d : decode cc pc = .ok (.ldc2_w idx, 3)) (hq : pc + 3 = q) (k : V l X R C f q lv (.long v :: st)) : V l X R C f pc lv (st) := by
  obtain ⟨p, e, s, m, args, below, meth, c, nL, Q, kc, ks⟩ := C
  subst hq
  intro H locs ls hP hS hl
  exact lv_ldc2 hC.1 hC.2.1 hC.2.2.2.1 (hC.2.2.2.2.1 _ hw) d (k H locs ls hP hS hl)
/-- a field's link: class ci's field j, read by own's entry idx; likewise of a nest mate; and for a write -/
def FLk (own : String) (idx ci j : Nat) : Prop := ∃ (Cn : String) (T : u_T) (N : Nat), vwCl[ci]? = some (Cn, T, N) ∧ (∀ w ∈ u_ws Cn T N, w ∈ tG) ∧ j < N ∧ Cond.fieldLink own idx (T j).1 (T j).2.1 (T j).2.2.1 ∈ tG
def NLk (own : String) (idx ci j : Nat) : Prop := ∃ (Cn : String) (T : u_T) (N : Nat) (host : String), vwCl[ci]? = some (Cn, T, N) ∧ (∀ w ∈ u_ws Cn T N, w ∈ tG) ∧ j < N ∧ (own, idx, (T j).1, (T j).2.1, (T j).2.2.1, host) ∈ nstT
def PTy (ci j : Nat) (ty : FieldType) : Prop := ∃ (Cn : String) (T : u_T) (N : Nat) (ty0 : Nat → FieldType), vwCl[ci]? = some (Cn, T, N) ∧ (∀ k, k < N → parseFieldDescriptor (T k).2.2.1 = some (ty0 k)) ∧ (∀ a, a < N → ∀ b, b < N → a ≠ b → (T a).2.1 ≠ (T b).2.1) ∧ (T j).2.2.2 = false ∧ parseFieldDescriptor (T j).2.2.1 = some ty
theorem v_get (hC : cOK X R C cc own) {idx ci j k : Nat} {fs : List Value} {v : Value} (hF : FLk own idx ci j) (hk : k < 56) (hf : f k = .inr (ci, fs)) (hv : fs[j]? = some v) (d : decode cc pc = .ok (.getfield idx, 3)) (hq : pc + 3 = q) (kk : V l X R C f q lv (v :: st)) : V l X R C f pc lv (.ref (ga X k) :: st) := by
  obtain ⟨p, e, s, m, args, below, meth, c, nL, Q, kc, ks⟩ := C
  subst hq
  intro H locs ls hP hS hl
  obtain ⟨Cn, T, N, h1, h2, h3, h4⟩ := hF
  exact va_get (D := gD X) hC.1 hC.2.1 hC.2.2.2.2.1 h2 hC.2.2.2.1 hC.2.2.2.2.2.1.2.1 hP k (by rw [gw_at hk, hf]) h1 j h3 (hC.2.2.2.2.1 _ h4) (fun _ h9 => h9) hv d (kk H locs ls hP hS hl)
theorem v_getN (hC : cOK X R C cc own) {idx ci j k : Nat} {fs : List Value} {v : Value} (hF : NLk own idx ci j) (hk : k < 56) (hf : f k = .inr (ci, fs)) (hv : fs[j]? = some v) (d : decode cc pc = .ok (.getfield idx, 3)) (hq : pc + 3 = q) (kk : V l X R C f q lv (v :: st)) : V l X R C f pc lv (.ref (ga X k) :: st) := by
  obtain ⟨p, e, s, m, args, below, meth, c, nL, Q, kc, ks⟩ := C
  subst hq
  intro H locs ls hP hS hl
  obtain ⟨Cn, T, N, host, h1, h2, h3, h4⟩ := hF
  exact va_getN (D := gD X) hC.1 hC.2.1 hC.2.2.2.2.1 h2 hC.2.2.2.1 hC.2.2.2.2.2.1.2.1 hP k (by rw [gw_at hk, hf]) h1 j h3 (va_Nw.use rfl (hC.2.2.2.2.2.1.2.2.1 _ h4)) (fun _ h9 => h9) hv d (kk H locs ls hP hS hl)
theorem v_put (hC : cOK X R C cc own) {idx ci j k : Nat} {fs : List Value} {v : Value} {ty : FieldType} {g : Hp} (hF : FLk own idx ci j) (hT : PTy ci j ty) (hk : k < 56) (hf : f k = .inr (ci, fs)) (hj : j < fs.length) (hn : narrow ty v = v) (hfit : fits ty v = true) (hg : va_up f k (.inr (ci, fs.set j v)) = g) (d : decode cc pc = .ok (.putfield idx, 3)) (hq : pc + 3 = q) (kk : V l X R C g q lv st) : V l X R C f pc lv (v :: .ref (ga X k) :: st) := by
  obtain ⟨p, e, s, m, args, below, meth, c, nL, Q, kc, ks⟩ := C
  subst hq
  intro H locs ls hP hS hl
  subst hg
  obtain ⟨Cn, T, N, h1, h2, h3, h4⟩ := hF
  obtain ⟨Cn', T', N', ty0, g1, g2, g3, g4, g5⟩ := hT
  cases h1.symm.trans g1
  exact va_put (D := gD X) hC.1 hC.2.1 hC.2.2.2.2.1 h2 ty0 g2 g3 hC.2.2.2.1 hC.2.2.2.2.2.1.2.1 hP (gw_D hC.2.2.2.2.2.1.1) hS k (by rw [gw_at hk, hf]) h1 j h3 (hC.2.2.2.2.1 _ h4) (fun _ h9 => h9) g4 g5 hn hfit hj d (fun H1 locs1 hP1 _ hS1 => kk H1 locs1 ls (by rw [← gw_up]; exact hP1) hS1 hl)
theorem v_putN (hC : cOK X R C cc own) {idx ci j k : Nat} {fs : List Value} {v : Value} {ty : FieldType} {g : Hp} (hF : NLk own idx ci j) (hT : PTy ci j ty) (hk : k < 56) (hf : f k = .inr (ci, fs)) (hj : j < fs.length) (hn : narrow ty v = v) (hfit : fits ty v = true) (hg : va_up f k (.inr (ci, fs.set j v)) = g) (d : decode cc pc = .ok (.putfield idx, 3)) (hq : pc + 3 = q) (kk : V l X R C g q lv st) : V l X R C f pc lv (v :: .ref (ga X k) :: st) := by
  obtain ⟨p, e, s, m, args, below, meth, c, nL, Q, kc, ks⟩ := C
  subst hq
  intro H locs ls hP hS hl
  subst hg
  obtain ⟨Cn, T, N, host, h1, h2, h3, h4⟩ := hF
  obtain ⟨Cn', T', N', ty0, g1, g2, g3, g4, g5⟩ := hT
  cases h1.symm.trans g1
  exact va_putN (D := gD X) hC.1 hC.2.1 hC.2.2.2.2.1 h2 ty0 g2 g3 hC.2.2.2.1 hC.2.2.2.2.2.1.2.1 hP (gw_D hC.2.2.2.2.2.1.1) hS k (by rw [gw_at hk, hf]) h1 j h3 (va_Nw.use rfl (hC.2.2.2.2.2.1.2.2.1 _ h4)) (fun _ h9 => h9) g4 g5 hn hfit hj d (fun H1 locs1 hP1 _ hS1 => kk H1 locs1 ls (by rw [← gw_up]; exact hP1) hS1 hl)
theorem v_iald (hC : cOK X R C cc own) {k n j : Nat} {g : Nat → Int32} {i : Int32} (hk : k < 56) (hf : f k = .inl (gc X 0, n, .inl g)) (hi : vp_in i n) (hj : i.toNatClampNeg = j) (d : decode cc pc = .ok (.iaload, 1)) (hq : pc + 1 = q) (kk : V l X R C f q lv (.int (g j) :: st)) : V l X R C f pc lv (.int i :: .ref (ga X k) :: st) := by
  obtain ⟨p, e, s, m, args, below, meth, c, nL, Q, kc, ks⟩ := C
  subst hq
  intro H locs ls hP hS hl
  subst hj
  exact va_iald (D := gD X) hC.1 hC.2.1 hC.2.2.2.2.2.1.2.1 hP k 0 (by rw [gw_at hk, hf]) rfl hi d (kk H locs ls hP hS hl)
theorem v_lald (hC : cOK X R C cc own) {k n j : Nat} {g : Nat → Int64} {i : Int32} (hk : k < 56) (hf : f k = .inl (gc X 1, n, .inr (.inl g))) (hi : vp_in i n) (hj : i.toNatClampNeg = j) (d : decode cc pc = .ok (.laload, 1)) (hq : pc + 1 = q) (kk : V l X R C f q lv (.long (g j) :: st)) : V l X R C f pc lv (.int i :: .ref (ga X k) :: st) := by
  obtain ⟨p, e, s, m, args, below, meth, c, nL, Q, kc, ks⟩ := C
  subst hq
  intro H locs ls hP hS hl
  subst hj
  exact va_lald (D := gD X) hC.1 hC.2.1 hC.2.2.2.2.2.1.2.1 hP k 1 (by rw [gw_at hk, hf]) rfl hi d (kk H locs ls hP hS hl)
theorem v_aald (hC : cOK X R C cc own) {k n j b : Nat} {cA : ClassId} (tt : Nat) {Cn : String} {g : Nat → Option Nat} {i : Int32} (hk : k < 56) (hf : f k = .inl (cA, n, .inr (.inr (.inr (.inr g))))) (ht : (gty X)[tt]? = some (cA, .object Cn)) (hi : vp_in i n) (hj : i.toNatClampNeg = j) (hb : g j = some b) (d : decode cc pc = .ok (.aaload, 1)) (hq : pc + 1 = q) (kk : V l X R C f q lv (.ref b :: st)) : V l X R C f pc lv (.int i :: .ref (ga X k) :: st) := by
  obtain ⟨p, e, s, m, args, below, meth, c, nL, Q, kc, ks⟩ := C
  subst hq
  intro H locs ls hP hS hl
  subst hj
  exact va_aldq (D := gD X) hC.1 hC.2.1 hC.2.2.2.2.2.1.2.1 hP k tt (by rw [gw_at hk, hf]) ht hi d (by rw [hb]; exact kk H locs ls hP hS hl)
theorem v_iast (hC : cOK X R C cc own) {k n j : Nat} {g : Nat → Int32} {i x : Int32} {f' : Hp} (hk : k < 56) (hf : f k = .inl (gc X 0, n, .inl g)) (hi : vp_in i n) (hj : i.toNatClampNeg = j) (hg : va_up f k (.inl (gc X 0, n, .inl (upd g j x))) = f') (d : decode cc pc = .ok (.iastore, 1)) (hq : pc + 1 = q) (kk : V l X R C f' q lv st) : V l X R C f pc lv (.int x :: .int i :: .ref (ga X k) :: st) := by
  obtain ⟨p, e, s, m, args, below, meth, c, nL, Q, kc, ks⟩ := C
  subst hq
  intro H locs ls hP hS hl
  subst hj
  subst hg
  exact va_iast (D := gD X) hC.1 hC.2.1 hC.2.2.2.2.2.1.2.1 hP (gw_D hC.2.2.2.2.2.1.1) hS k 0 (by rw [gw_at hk, hf]) rfl hi d (fun H1 locs1 hP1 _ hS1 => kk H1 locs1 ls (by rw [← gw_up]; exact hP1) hS1 hl)
theorem v_last (hC : cOK X R C cc own) {k n j : Nat} {g : Nat → Int64} {i : Int32} {x : Int64} {f' : Hp} (hk : k < 56) (hf : f k = .inl (gc X 1, n, .inr (.inl g))) (hi : vp_in i n) (hj : i.toNatClampNeg = j) (hg : va_up f k (.inl (gc X 1, n, .inr (.inl (vp_updL g j x)))) = f') (d : decode cc pc = .ok (.lastore, 1)) (hq : pc + 1 = q) (kk : V l X R C f' q lv st) : V l X R C f pc lv (.long x :: .int i :: .ref (ga X k) :: st) := by
  obtain ⟨p, e, s, m, args, below, meth, c, nL, Q, kc, ks⟩ := C
  subst hq
  intro H locs ls hP hS hl
  subst hj
  subst hg
  exact va_last (D := gD X) hC.1 hC.2.1 hC.2.2.2.2.2.1.2.1 hP (gw_D hC.2.2.2.2.2.1.1) hS k 1 (by rw [gw_at hk, hf]) rfl hi d (fun H1 locs1 hP1 _ hS1 => kk H1 locs1 ls (by rw [← gw_up]; exact hP1) hS1 hl)
theorem v_getKA (hC : cOK X R C cc own) {idx : Nat} (hw : Cond.fieldLink own idx RX5 "KIND_ABOVE" "[I" ∈ tG) (d : decode cc pc = .ok (.getstatic idx, 3)) (hq : pc + 3 = q) (kk : V l X R C f q lv (.ref (gs X 0) :: st)) : V l X R C f pc lv st := by
  obtain ⟨p, e, s, m, args, below, meth, c, nL, Q, kc, ks⟩ := C
  subst hq
  intro H locs ls hP hS hl
  exact va_gets hC.1 hC.2.1 hC.2.2.2.2.2.1.2.2.2.1.1 hS hC.2.2.2.1 (hC.2.2.2.2.1 _ hw) (fun _ h9 => h9) d (kk H locs ls hP hS hl)
theorem v_getNM (hC : cOK X R C cc own) {idx : Nat} (hw : Cond.fieldLink own idx RX6 "NAMES" "[I" ∈ tG) (d : decode cc pc = .ok (.getstatic idx, 3)) (hq : pc + 3 = q) (kk : V l X R C f q lv (.ref (gs X 1) :: st)) : V l X R C f pc lv st := by
  obtain ⟨p, e, s, m, args, below, meth, c, nL, Q, kc, ks⟩ := C
  subst hq
  intro H locs ls hP hS hl
  exact va_gets hC.1 hC.2.1 hC.2.2.2.2.2.1.2.2.2.2.1.1 hS hC.2.2.2.1 (hC.2.2.2.2.1 _ hw) (fun _ h9 => h9) d (kk H locs ls hP hS hl)
theorem v_getCS (hC : cOK X R C cc own) {idx : Nat} (hw : Cond.fieldLink own idx RJ0 "COMPACT_STRINGS" "Z" ∈ tG) (d : decode cc pc = .ok (.getstatic idx, 3)) (hq : pc + 3 = q) (kk : V l X R C f q lv (.int 1 :: st)) : V l X R C f pc lv st := by
  obtain ⟨p, e, s, m, args, below, meth, c, nL, Q, kc, ks⟩ := C
  subst hq
  intro H locs ls hP hS hl
  exact va_gets hC.1 hC.2.1 hC.2.2.2.2.2.1.2.2.2.2.2.2.2.1 hS hC.2.2.2.1 (hC.2.2.2.2.1 _ hw) (fun _ h9 => h9) d (kk H locs ls hP hS hl)
theorem v_getSF (hC : cOK X R C cc own) {idx : Nat} (hw : Cond.fieldLink own idx RJ3 "SIOOBE_FORMATTER" "Ljava/util/function/BiFunction;" ∈ tG) (d : decode cc pc = .ok (.getstatic idx, 3)) (hq : pc + 3 = q) (kk : ∀ v : Value, (v = .null ∨ ∃ x, v = .ref x) → V l X R C f q lv (v :: st)) : V l X R C f pc lv st := by
  obtain ⟨p, e, s, m, args, below, meth, c, nL, Q, kc, ks⟩ := C
  subst hq
  intro H locs ls hP hS hl
  rcases hC.2.2.2.2.2.1.2.2.2.2.2.2.2.2 with h | ⟨x, h⟩
  · exact va_gets hC.1 hC.2.1 h hS hC.2.2.2.1 (hC.2.2.2.2.1 _ hw) (fun _ h9 => h9) d (kk .null (Or.inl rfl) H locs ls hP hS hl)
  · exact va_gets hC.1 hC.2.1 h hS hC.2.2.2.1 (hC.2.2.2.2.1 _ hw) (fun _ h9 => h9) d (kk (.ref x) (Or.inr ⟨x, rfl⟩) H locs ls hP hS hl)
theorem v_tKA (hC : cOK X R C cc own) {i : Int32} {v : Value} (hi : vp_in i 6) (hv : kaF i.toNatClampNeg = v) (d : decode cc pc = .ok (.iaload, 1)) (hq : pc + 1 = q) (kk : V l X R C f q lv (v :: st)) : V l X R C f pc lv (.int i :: .ref (gs X 0) :: st) := by
  obtain ⟨p, e, s, m, args, below, meth, c, nL, Q, kc, ks⟩ := C
  subst hq
  intro H locs ls hP hS hl
  exact va_ti hC.1 hC.2.1 hC.2.2.2.2.2.1.2.2.2.1.2 hS hi hv d (kk H locs ls hP hS hl)
theorem v_tNM (hC : cOK X R C cc own) {i : Int32} {v : Value} (hi : vp_in i 77) (hv : nmF i.toNatClampNeg = v) (d : decode cc pc = .ok (.iaload, 1)) (hq : pc + 1 = q) (kk : V l X R C f q lv (v :: st)) : V l X R C f pc lv (.int i :: .ref (gs X 1) :: st) := by
  obtain ⟨p, e, s, m, args, below, meth, c, nL, Q, kc, ks⟩ := C
  subst hq
  intro H locs ls hP hS hl
  exact va_ti hC.1 hC.2.1 hC.2.2.2.2.2.1.2.2.2.2.1.2 hS hi hv d (kk H locs ls hP hS hl)
theorem v_ldcS (hC : cOK X R C cc RX4) {idx i : Nat} {tx : String} (hi : swI[i]? = some (idx, tx)) (d : decode cc pc = .ok (.ldc idx, 2)) (hq : pc + 2 = q) (kk : V l X R C f q lv (.ref (gK X i) :: st)) : V l X R C f pc lv st := by
  obtain ⟨p, e, s, m, args, below, meth, c, nL, Q, kc, ks⟩ := C
  subst hq
  intro H locs ls hP hS hl
  exact va_ldcS hC.1 hC.2.1 hC.2.2.2.1 (hC.2.2.2.2.2.1.2.2.2.2.2.2.1 i _ hi) d (kk H locs ls hP hS hl)
theorem v_strV (hC : cOK X R C cc own) {idx i : Nat} (hi : i < 11) (hw : Cond.fieldLink own idx RJ0 "value" "[B" ∈ tG) (d : decode cc pc = .ok (.getfield idx, 3)) (hq : pc + 3 = q) (kk : V l X R C f q lv (.ref (gV X i) :: st)) : V l X R C f pc lv (.ref (gK X i) :: st) := by
  obtain ⟨p, e, s, m, args, below, meth, c, nL, Q, kc, ks⟩ := C
  subst hq
  intro H locs ls hP hS hl
  exact vk_getf hC.1 hC.2.1 (hC.2.2.2.2.2.1.2.2.2.2.2.1.1 i hi).2.2.1 hS hC.2.2.2.1 (hC.2.2.2.2.1 _ hw) (fun _ h9 => h9) d (kk H locs ls hP hS hl)
theorem v_strC (hC : cOK X R C cc own) {idx i : Nat} (hi : i < 11) (hw : Cond.fieldLink own idx RJ0 "coder" "B" ∈ tG) (d : decode cc pc = .ok (.getfield idx, 3)) (hq : pc + 3 = q) (kk : V l X R C f q lv (.int 0 :: st)) : V l X R C f pc lv (.ref (gK X i) :: st) := by
  obtain ⟨p, e, s, m, args, below, meth, c, nL, Q, kc, ks⟩ := C
  subst hq
  intro H locs ls hP hS hl
  exact vk_getf hC.1 hC.2.1 (hC.2.2.2.2.2.1.2.2.2.2.2.1.1 i hi).2.1 hS hC.2.2.2.1 (hC.2.2.2.2.1 _ hw) (fun _ h9 => h9) d (kk H locs ls hP hS hl)
theorem v_strL (hC : cOK X R C cc own) {i : Nat} {v : Int32} (hi : i < 11) (hv : Int32.ofNat (swN.getD i 0) = v) (d : decode cc pc = .ok (.arraylength, 1)) (hq : pc + 1 = q) (kk : V l X R C f q lv (.int v :: st)) : V l X R C f pc lv (.ref (gV X i) :: st) := by
  obtain ⟨p, e, s, m, args, below, meth, c, nL, Q, kc, ks⟩ := C
  subst hq
  intro H locs ls hP hS hl
  exact va_tlen hC.1 hC.2.1 (hC.2.2.2.2.2.1.2.2.2.2.2.1.1 i hi).2.2.2 hS hv d (kk H locs ls hP hS hl)
theorem v_strB (hC : cOK X R C cc own) {i : Nat} {j : Int32} (hi : i < 11) (hj : vp_in j (swN.getD i 0)) (d : decode cc pc = .ok (.baload, 1)) (hq : pc + 1 = q) (kk : V l X R C f q lv (.int ((swL.getD i []).getD j.toNatClampNeg 0) :: st)) : V l X R C f pc lv (.int j :: .ref (gV X i) :: st) := by
  obtain ⟨p, e, s, m, args, below, meth, c, nL, Q, kc, ks⟩ := C
  subst hq
  intro H locs ls hP hS hl
  exact va_tb hC.1 hC.2.1 (hC.2.2.2.2.2.1.2.2.2.2.2.1.1 i hi).2.2.2 hS hj rfl d (kk H locs ls hP hS hl)
theorem v_max (hC : cOK X R C cc own) {idx : Nat} (h1 : Cond.methodLink own idx Lib.Math.max.name ∈ tG) (h2 : Cond.static Lib.Math.max.name ∈ tG) (h3 : Cond.initialized "java/lang/Math" ∈ tG) (h4 : Cond.code Lib.Math.max.name Lib.Math.max.code 2 (some .int) ∈ tG) (hR : 1 ≤ R.frames ∧ (st.map fun v => v.category).sum + 13 ≤ R.locals) {x y : Int32} (d : decode cc pc = .ok (.invokestatic idx, 3)) (hq : pc + 3 = q) (kk : V l X R C f q lv (.int (if x < y then y else x) :: st)) : V l X R C f pc lv (.int y :: .int x :: st) := by
  obtain ⟨p, e, s, m, args, below, meth, c, nL, Q, kc, ks⟩ := C
  subst hq
  intro H locs ls hP hS hl
  exact va_mmax hC.1 hC.2.1 (hC.2.2.1.trans hl.1.symm) hC.2.2.2.1 (hC.2.2.2.2.1 _ h1) (hC.2.2.2.2.1 _ h2) (hC.2.2.2.2.1 _ h3) (hC.2.2.2.2.1 _ h4) hR.1 hR.2 hC.2.2.2.2.2.2.1 hC.2.2.2.2.2.2.2 d (kk H locs ls hP hS hl)
theorem v_min (hC : cOK X R C cc own) {idx : Nat} (h1 : Cond.methodLink own idx Lib.Math.min.name ∈ tG) (h2 : Cond.static Lib.Math.min.name ∈ tG) (h3 : Cond.initialized "java/lang/Math" ∈ tG) (h4 : Cond.code Lib.Math.min.name Lib.Math.min.code 2 (some .int) ∈ tG) (hR : 1 ≤ R.frames ∧ (st.map fun v => v.category).sum + 13 ≤ R.locals) {x y : Int32} (d : decode cc pc = .ok (.invokestatic idx, 3)) (hq : pc + 3 = q) (kk : V l X R C f q lv (.int (if y < x then y else x) :: st)) : V l X R C f pc lv (.int y :: .int x :: st) := by
  obtain ⟨p, e, s, m, args, below, meth, c, nL, Q, kc, ks⟩ := C
  subst hq
  intro H locs ls hP hS hl
  exact va_mmin hC.1 hC.2.1 (hC.2.2.1.trans hl.1.symm) hC.2.2.2.1 (hC.2.2.2.2.1 _ h1) (hC.2.2.2.2.1 _ h2) (hC.2.2.2.2.1 _ h3) (hC.2.2.2.2.1 _ h4) hR.1 hR.2 hC.2.2.2.2.2.2.1 hC.2.2.2.2.2.2.2 d (kk H locs ls hP hS hl)
theorem tg_V {k : Cond} {own : String} {idx : Nat} {y : MethodName} {Cn : String} {bytes : ByteArray} {maxL : Nat} {ret : Option FieldType} {n : Nat} (L : LkV own idx y Cn bytes maxL ret n) : GoodIn (k :: tG) (wsV own idx Cn y (Cond.code y bytes maxL ret :: tG)) := by
  obtain ⟨h1, h2, h3, h4, h5, -⟩ := L
  refine tg_in (fun w hw => ?_)
  simp only [wsV, List.mem_append, List.mem_cons, List.not_mem_nil, or_false] at hw
  rcases hw with (rfl | rfl | rfl | rfl) | (rfl | hw)
  · exact h1
  · exact h2
  · exact h3
  · exact h4
  · exact h5
  · exact hw
theorem tg_S {k : Cond} {own : String} {idx : Nat} {y : MethodName} {bytes : ByteArray} {maxL : Nat} {ret : Option FieldType} {n : Nat} (L : LkS own idx y bytes maxL ret n) : GoodIn (k :: tG) (va_wsS own idx y (Cond.code y bytes maxL ret :: tG)) := by
  obtain ⟨h1, h2, h3, h4, -⟩ := L
  refine tg_in (fun w hw => ?_)
  simp only [va_wsS, List.mem_append, List.mem_cons, List.not_mem_nil, or_false] at hw
  rcases hw with (rfl | rfl | rfl) | (rfl | hw)
  · exact h1
  · exact h2
  · exact h3
  · exact h4
  · exact hw
theorem g_blind {X : Gx} {f : Hp} {as : List Value} : FrameBlind (va_Pc as (fun U => gZ X U ∧ va_P (gD X) vwCl (gw X f) U.heap)) := fun a U g mk h => ⟨h.1, h.2.1.calling, h.2.2⟩
theorem v_Vi (hC : cOK X R C cc own) {idx : Nat} {y : MethodName} {Cn : String} {bytes : ByteArray} {maxL n F Lc : Nat} {ret : Option FieldType} (L : LkV own idx y Cn bytes maxL ret n) {k ci : Nat} {fs : List Value} {T : u_T} {N : Nat} {As rest : List Value} {post : Int32 → Hp → Prop} (hM : Ci l X y bytes maxL ret (rmk F Lc) (.ref (ga X k) :: As) f post) (hst : st = As.reverse ++ .ref (ga X k) :: rest) (hR : F + 1 ≤ R.frames ∧ 8 + (maxL + 11) + Lc ≤ R.locals) (hk : k < 56) (hf : f k = .inr (ci, fs)) (hcl : vwCl[ci]? = some (Cn, T, N)) (hn : As.length = n) (hrs : (rest.map fun v => v.category).sum ≤ 8) (d : decode cc pc = .ok (.invokevirtual idx, 3)) (hq : pc + 3 = q) (kk : ∀ (r : Int32) (g : Hp), post r g → V l X R C g q lv (.int r :: rest)) : V l X R C f pc lv st := by
  obtain ⟨p, e, s, m, args, below, meth, c, nL, Q, kc, ks⟩ := C
  subst hq
  intro H locs ls hP hS hl
  have hts : ∀ w ∈ (Cond.initialized Cn :: tG), w.before args s = true := fun w hw => by
    rcases List.mem_cons.mp hw with rfl | h
    · exact hC.2.2.2.2.1 _ L.2.2.2.1
    · exact hC.2.2.2.2.1 w h
  refine va_calli (va_runV (As := As) (rest := rest) ⟨hC.1, hC.2.1, hC.2.2.1, hC.2.2.2.1, hts⟩ hM (cwV n hts (tg_V L) rfl rfl rfl L.2.2.2.2.2 hR) ⟨g_blind, va_recv hC.2.2.2.2.2.1.2.1 hP hcl (by rw [gw_at hk, hf]), fun U hU hW => ⟨rfl, hC.2.2.2.2.2.1.go hS hU hW, by rw [hU]; exact hP⟩⟩ rfl hn hl.1 hst (lv_room hrs) d ⟨hC.2.2.2.2.2.2.1, hC.2.2.2.2.2.2.2⟩) hS (fun _ _ h => h) (fun _ h => h) ?_
  exact (fun r g t H1 locs1 ht _ hp hB _ _ hS1 => kk r g hp H1 locs1 ls (ht ▸ hB) hS1 hl)
theorem v_Si (hC : cOK X R C cc own) {idx : Nat} {y : MethodName} {bytes : ByteArray} {maxL n F Lc : Nat} {ret : Option FieldType} (L : LkS own idx y bytes maxL ret n) {As rest : List Value} {post : Int32 → Hp → Prop} (hM : Ci l X y bytes maxL ret (rmk F Lc) As f post) (hst : st = As.reverse ++ rest) (hR : F + 1 ≤ R.frames ∧ 8 + (maxL + 11) + Lc ≤ R.locals) (hn : As.length = n) (hrs : (rest.map fun v => v.category).sum ≤ 8) (d : decode cc pc = .ok (.invokestatic idx, 3)) (hq : pc + 3 = q) (kk : ∀ (r : Int32) (g : Hp), post r g → V l X R C g q lv (.int r :: rest)) : V l X R C f pc lv st := by
  obtain ⟨p, e, s, m, args, below, meth, c, nL, Q, kc, ks⟩ := C
  subst hq
  intro H locs ls hP hS hl
  have hts : ∀ w ∈ (Cond.static y :: tG), w.before args s = true := fun w hw => by
    rcases List.mem_cons.mp hw with rfl | h
    · exact hC.2.2.2.2.1 _ L.2.1
    · exact hC.2.2.2.2.1 w h
  refine va_calli (va_runS (As := As) (rest := rest) ⟨hC.1, hC.2.1, hC.2.2.1, hC.2.2.2.1, hts⟩ hM (va_cwS n hts (tg_S L) rfl rfl rfl L.2.2.2.2 hR) ⟨g_blind, fun U hU hW => ⟨rfl, hC.2.2.2.2.2.1.go hS hU hW, by rw [hU]; exact hP⟩⟩ rfl hn hl.1 hst (lv_room hrs) d ⟨hC.2.2.2.2.2.2.1, hC.2.2.2.2.2.2.2⟩) hS (fun _ _ h => h) (fun _ h => h) ?_
  exact (fun r g t H1 locs1 ht _ hp hB _ _ hS1 => kk r g hp H1 locs1 ls (ht ▸ hB) hS1 hl)
theorem v_Vv (hC : cOK X R C cc own) {idx : Nat} {y : MethodName} {Cn : String} {bytes : ByteArray} {maxL n F Lc : Nat} {ret : Option FieldType} (L : LkV own idx y Cn bytes maxL ret n) {k ci : Nat} {fs : List Value} {T : u_T} {N : Nat} {As rest : List Value} {post : Hp → Prop} (hM : Cv l X y bytes maxL ret (rmk F Lc) (.ref (ga X k) :: As) f post) (hst : st = As.reverse ++ .ref (ga X k) :: rest) (hR : F + 1 ≤ R.frames ∧ 8 + (maxL + 11) + Lc ≤ R.locals) (hk : k < 56) (hf : f k = .inr (ci, fs)) (hcl : vwCl[ci]? = some (Cn, T, N)) (hn : As.length = n) (hrs : (rest.map fun v => v.category).sum ≤ 8) (d : decode cc pc = .ok (.invokevirtual idx, 3)) (hq : pc + 3 = q) (kk : ∀ (g : Hp), post g → V l X R C g q lv rest) : V l X R C f pc lv st := by
  obtain ⟨p, e, s, m, args, below, meth, c, nL, Q, kc, ks⟩ := C
  subst hq
  intro H locs ls hP hS hl
  have hts : ∀ w ∈ (Cond.initialized Cn :: tG), w.before args s = true := fun w hw => by
    rcases List.mem_cons.mp hw with rfl | h
    · exact hC.2.2.2.2.1 _ L.2.2.2.1
    · exact hC.2.2.2.2.1 w h
  refine va_callv (va_runV (As := As) (rest := rest) ⟨hC.1, hC.2.1, hC.2.2.1, hC.2.2.2.1, hts⟩ hM (cwV n hts (tg_V L) rfl rfl rfl L.2.2.2.2.2 hR) ⟨g_blind, va_recv hC.2.2.2.2.2.1.2.1 hP hcl (by rw [gw_at hk, hf]), fun U hU hW => ⟨rfl, hC.2.2.2.2.2.1.go hS hU hW, by rw [hU]; exact hP⟩⟩ rfl hn hl.1 hst (lv_room hrs) d ⟨hC.2.2.2.2.2.2.1, hC.2.2.2.2.2.2.2⟩) hS (fun _ _ h => h) (fun _ h => h) ?_
  exact (fun g t H1 locs1 ht _ hp hB _ _ hS1 => kk g hp H1 locs1 ls (ht ▸ hB) hS1 hl)
theorem v_Sv (hC : cOK X R C cc own) {idx : Nat} {y : MethodName} {bytes : ByteArray} {maxL n F Lc : Nat} {ret : Option FieldType} (L : LkS own idx y bytes maxL ret n) {As rest : List Value} {post : Hp → Prop} (hM : Cv l X y bytes maxL ret (rmk F Lc) As f post) (hst : st = As.reverse ++ rest) (hR : F + 1 ≤ R.frames ∧ 8 + (maxL + 11) + Lc ≤ R.locals) (hn : As.length = n) (hrs : (rest.map fun v => v.category).sum ≤ 8) (d : decode cc pc = .ok (.invokestatic idx, 3)) (hq : pc + 3 = q) (kk : ∀ (g : Hp), post g → V l X R C g q lv rest) : V l X R C f pc lv st := by
  obtain ⟨p, e, s, m, args, below, meth, c, nL, Q, kc, ks⟩ := C
  subst hq
  intro H locs ls hP hS hl
  have hts : ∀ w ∈ (Cond.static y :: tG), w.before args s = true := fun w hw => by
    rcases List.mem_cons.mp hw with rfl | h
    · exact hC.2.2.2.2.1 _ L.2.1
    · exact hC.2.2.2.2.1 w h
  refine va_callv (va_runS (As := As) (rest := rest) ⟨hC.1, hC.2.1, hC.2.2.1, hC.2.2.2.1, hts⟩ hM (va_cwS n hts (tg_S L) rfl rfl rfl L.2.2.2.2 hR) ⟨g_blind, fun U hU hW => ⟨rfl, hC.2.2.2.2.2.1.go hS hU hW, by rw [hU]; exact hP⟩⟩ rfl hn hl.1 hst (lv_room hrs) d ⟨hC.2.2.2.2.2.2.1, hC.2.2.2.2.2.2.2⟩) hS (fun _ _ h => h) (fun _ h => h) ?_
  exact (fun g t H1 locs1 ht _ hp hB _ _ hS1 => kk g hp H1 locs1 ls (ht ▸ hB) hS1 hl)
theorem v_Vl (hC : cOK X R C cc own) {idx : Nat} {y : MethodName} {Cn : String} {bytes : ByteArray} {maxL n F Lc : Nat} {ret : Option FieldType} (L : LkV own idx y Cn bytes maxL ret n) {k ci : Nat} {fs : List Value} {T : u_T} {N : Nat} {As rest : List Value} {post : Int64 → Hp → Prop} (hM : Cl l X y bytes maxL ret (rmk F Lc) (.ref (ga X k) :: As) f post) (hst : st = As.reverse ++ .ref (ga X k) :: rest) (hR : F + 1 ≤ R.frames ∧ 8 + (maxL + 11) + Lc ≤ R.locals) (hk : k < 56) (hf : f k = .inr (ci, fs)) (hcl : vwCl[ci]? = some (Cn, T, N)) (hn : As.length = n) (hrs : (rest.map fun v => v.category).sum ≤ 8) (d : decode cc pc = .ok (.invokevirtual idx, 3)) (hq : pc + 3 = q) (kk : ∀ (r : Int64) (g : Hp), post r g → V l X R C g q lv (.long r :: rest)) : V l X R C f pc lv st := by
  obtain ⟨p, e, s, m, args, below, meth, c, nL, Q, kc, ks⟩ := C
  subst hq
  intro H locs ls hP hS hl
  have hts : ∀ w ∈ (Cond.initialized Cn :: tG), w.before args s = true := fun w hw => by
    rcases List.mem_cons.mp hw with rfl | h
    · exact hC.2.2.2.2.1 _ L.2.2.2.1
    · exact hC.2.2.2.2.1 w h
  refine va_calll (va_runV (As := As) (rest := rest) ⟨hC.1, hC.2.1, hC.2.2.1, hC.2.2.2.1, hts⟩ hM (cwV n hts (tg_V L) rfl rfl rfl L.2.2.2.2.2 hR) ⟨g_blind, va_recv hC.2.2.2.2.2.1.2.1 hP hcl (by rw [gw_at hk, hf]), fun U hU hW => ⟨rfl, hC.2.2.2.2.2.1.go hS hU hW, by rw [hU]; exact hP⟩⟩ rfl hn hl.1 hst (lv_room hrs) d ⟨hC.2.2.2.2.2.2.1, hC.2.2.2.2.2.2.2⟩) hS (fun _ _ h => h) (fun _ h => h) ?_
  exact (fun r g t H1 locs1 ht _ hp hB _ _ hS1 => kk r g hp H1 locs1 ls (ht ▸ hB) hS1 hl)
theorem v_Sl (hC : cOK X R C cc own) {idx : Nat} {y : MethodName} {bytes : ByteArray} {maxL n F Lc : Nat} {ret : Option FieldType} (L : LkS own idx y bytes maxL ret n) {As rest : List Value} {post : Int64 → Hp → Prop} (hM : Cl l X y bytes maxL ret (rmk F Lc) As f post) (hst : st = As.reverse ++ rest) (hR : F + 1 ≤ R.frames ∧ 8 + (maxL + 11) + Lc ≤ R.locals) (hn : As.length = n) (hrs : (rest.map fun v => v.category).sum ≤ 8) (d : decode cc pc = .ok (.invokestatic idx, 3)) (hq : pc + 3 = q) (kk : ∀ (r : Int64) (g : Hp), post r g → V l X R C g q lv (.long r :: rest)) : V l X R C f pc lv st := by
  obtain ⟨p, e, s, m, args, below, meth, c, nL, Q, kc, ks⟩ := C
  subst hq
  intro H locs ls hP hS hl
  have hts : ∀ w ∈ (Cond.static y :: tG), w.before args s = true := fun w hw => by
    rcases List.mem_cons.mp hw with rfl | h
    · exact hC.2.2.2.2.1 _ L.2.1
    · exact hC.2.2.2.2.1 w h
  refine va_calll (va_runS (As := As) (rest := rest) ⟨hC.1, hC.2.1, hC.2.2.1, hC.2.2.2.1, hts⟩ hM (va_cwS n hts (tg_S L) rfl rfl rfl L.2.2.2.2 hR) ⟨g_blind, fun U hU hW => ⟨rfl, hC.2.2.2.2.2.1.go hS hU hW, by rw [hU]; exact hP⟩⟩ rfl hn hl.1 hst (lv_room hrs) d ⟨hC.2.2.2.2.2.2.1, hC.2.2.2.2.2.2.2⟩) hS (fun _ _ h => h) (fun _ h => h) ?_
  exact (fun r g t H1 locs1 ht _ hp hB _ _ hS1 => kk r g hp H1 locs1 ls (ht ▸ hB) hS1 hl)
theorem v_Vr (hC : cOK X R C cc own) {idx : Nat} {y : MethodName} {Cn : String} {bytes : ByteArray} {maxL n F Lc : Nat} {ret : Option FieldType} (L : LkV own idx y Cn bytes maxL ret n) {k ci : Nat} {fs : List Value} {T : u_T} {N : Nat} {As rest : List Value} {post : Nat → Hp → Prop} (hM : Cr l X y bytes maxL ret (rmk F Lc) (.ref (ga X k) :: As) f post) (hst : st = As.reverse ++ .ref (ga X k) :: rest) (hR : F + 1 ≤ R.frames ∧ 8 + (maxL + 11) + Lc ≤ R.locals) (hk : k < 56) (hf : f k = .inr (ci, fs)) (hcl : vwCl[ci]? = some (Cn, T, N)) (hn : As.length = n) (hrs : (rest.map fun v => v.category).sum ≤ 8) (d : decode cc pc = .ok (.invokevirtual idx, 3)) (hq : pc + 3 = q) (kk : ∀ (r : Nat) (g : Hp), post r g → V l X R C g q lv (.ref r :: rest)) : V l X R C f pc lv st := by
  obtain ⟨p, e, s, m, args, below, meth, c, nL, Q, kc, ks⟩ := C
  subst hq
  intro H locs ls hP hS hl
  have hts : ∀ w ∈ (Cond.initialized Cn :: tG), w.before args s = true := fun w hw => by
    rcases List.mem_cons.mp hw with rfl | h
    · exact hC.2.2.2.2.1 _ L.2.2.2.1
    · exact hC.2.2.2.2.1 w h
  refine va_callr (va_runV (As := As) (rest := rest) ⟨hC.1, hC.2.1, hC.2.2.1, hC.2.2.2.1, hts⟩ hM (cwV n hts (tg_V L) rfl rfl rfl L.2.2.2.2.2 hR) ⟨g_blind, va_recv hC.2.2.2.2.2.1.2.1 hP hcl (by rw [gw_at hk, hf]), fun U hU hW => ⟨rfl, hC.2.2.2.2.2.1.go hS hU hW, by rw [hU]; exact hP⟩⟩ rfl hn hl.1 hst (lv_room hrs) d ⟨hC.2.2.2.2.2.2.1, hC.2.2.2.2.2.2.2⟩) hS (fun _ _ h => h) (fun _ h => h) ?_
  exact (fun g r t H1 locs1 ht _ _ hB _ _ hS1 => kk r g hB.1 H1 locs1 ls (ht ▸ hB.2) hS1 hl)
theorem v_Sr (hC : cOK X R C cc own) {idx : Nat} {y : MethodName} {bytes : ByteArray} {maxL n F Lc : Nat} {ret : Option FieldType} (L : LkS own idx y bytes maxL ret n) {As rest : List Value} {post : Nat → Hp → Prop} (hM : Cr l X y bytes maxL ret (rmk F Lc) As f post) (hst : st = As.reverse ++ rest) (hR : F + 1 ≤ R.frames ∧ 8 + (maxL + 11) + Lc ≤ R.locals) (hn : As.length = n) (hrs : (rest.map fun v => v.category).sum ≤ 8) (d : decode cc pc = .ok (.invokestatic idx, 3)) (hq : pc + 3 = q) (kk : ∀ (r : Nat) (g : Hp), post r g → V l X R C g q lv (.ref r :: rest)) : V l X R C f pc lv st := by
  obtain ⟨p, e, s, m, args, below, meth, c, nL, Q, kc, ks⟩ := C
  subst hq
  intro H locs ls hP hS hl
  have hts : ∀ w ∈ (Cond.static y :: tG), w.before args s = true := fun w hw => by
    rcases List.mem_cons.mp hw with rfl | h
    · exact hC.2.2.2.2.1 _ L.2.1
    · exact hC.2.2.2.2.1 w h
  refine va_callr (va_runS (As := As) (rest := rest) ⟨hC.1, hC.2.1, hC.2.2.1, hC.2.2.2.1, hts⟩ hM (va_cwS n hts (tg_S L) rfl rfl rfl L.2.2.2.2 hR) ⟨g_blind, fun U hU hW => ⟨rfl, hC.2.2.2.2.2.1.go hS hU hW, by rw [hU]; exact hP⟩⟩ rfl hn hl.1 hst (lv_room hrs) d ⟨hC.2.2.2.2.2.2.1, hC.2.2.2.2.2.2.2⟩) hS (fun _ _ h => h) (fun _ h => h) ?_
  exact (fun g r t H1 locs1 ht _ _ hB _ _ hS1 => kk r g hB.1 H1 locs1 ls (ht ▸ hB.2) hS1 hl)
theorem v_KI (hC : cOK X R C cc own) {idx : Nat} {y : MethodName} {bytes : ByteArray} {maxL n F Lc : Nat} {ret : Option FieldType} (L : LkV own idx y RJ0 bytes maxL ret n) {i : Nat} {As rest : List Value} {post : Int32 → Hp → Prop} (hM : Ci l X y bytes maxL ret (rmk F Lc) (.ref (gK X i) :: As) f post) (hst : st = As.reverse ++ .ref (gK X i) :: rest) (hR : F + 1 ≤ R.frames ∧ 8 + (maxL + 11) + Lc ≤ R.locals) (hi : i < 11) (hn : As.length = n) (hrs : (rest.map fun v => v.category).sum ≤ 8) (d : decode cc pc = .ok (.invokevirtual idx, 3)) (hq : pc + 3 = q) (kk : ∀ (r : Int32) (g : Hp), post r g → V l X R C g q lv (.int r :: rest)) : V l X R C f pc lv st := by
  obtain ⟨p, e, s, m, args, below, meth, c, nL, Q, kc, ks⟩ := C
  subst hq
  intro H locs ls hP hS hl
  have hts : ∀ w ∈ (Cond.initialized RJ0 :: tG), w.before args s = true := fun w hw => by
    rcases List.mem_cons.mp hw with rfl | h
    · exact hC.2.2.2.2.1 _ L.2.2.2.1
    · exact hC.2.2.2.2.1 w h
  refine va_calli (va_runV (As := As) (rest := rest) ⟨hC.1, hC.2.1, hC.2.2.1, hC.2.2.2.1, hts⟩ hM (cwV n hts (tg_V L) rfl rfl rfl L.2.2.2.2.2 hR) ⟨g_blind, vk_recv hC.2.2.2.2.2.1.2.2.2.2.2.1 hi hS, fun U hU hW => ⟨rfl, hC.2.2.2.2.2.1.go hS hU hW, by rw [hU]; exact hP⟩⟩ rfl hn hl.1 hst (lv_room hrs) d ⟨hC.2.2.2.2.2.2.1, hC.2.2.2.2.2.2.2⟩) hS (fun _ _ h => h) (fun _ h => h) ?_
  exact (fun r g t H1 locs1 ht _ hp hB _ _ hS1 => kk r g hp H1 locs1 ls (ht ▸ hB) hS1 hl)
end VR
theorem ct_i {l : Launch} {X : Gx} {y : MethodName} {cc : ByteArray} {maxL F Lc : Nat} {as : List Value} {f : Hp} {post : Int32 → Hp → Prop} {own : String} {lv : Lv} (hy : plainName y.cls = true) (ho : y.cls = own) (hsz : (lg_sl as).length ≤ maxL) (hsz2 : (lvE maxL as).length ≤ maxL) (hlv : lvE maxL as = lv)
    (body : ∀ C : Cx, cOK X (rmk F Lc) C cc own → (∀ (g : Hp) (r : Int32) (pc : Nat) (lv : Lv), post r g → decode cc pc = .ok (.ireturn, 1) → V l X (rmk F Lc) C g pc lv [.int r]) → V l X (rmk F Lc) C f 0 lv []) : Ci l X y cc maxL (some .int) (rmk F Lc) as f post := by
  refine Met.ofW (cc := cc) (maxL := maxL) (ret := (some .int)) hy rfl ?_
  intro p e s m args below meth c s₁ B hml hv
  obtain ⟨rfl, hZ, hP⟩ := hv
  have hx := B.exec
  have hb := B.bytes
  have hr := B.returns
  have hts := atoms_spec (ws := Cond.code y cc maxL (some .int) :: tG) B.pre
  have hown : s.vm.findClass own = some m.cls := ho ▸ findClass_of_methodNamed B.named
  have hl := hasL_entry as hsz hsz2
  rw [lg_entry_eq]
  refine body (p, e, s, m, as.toArray, below, meth, c, maxL, _, 0, 0) ⟨hx, hb, hml, hown, fun w hw => hts w (List.mem_cons_of_mem _ hw), hZ, Nat.zero_le _, Nat.zero_le _⟩ ?_ _ _ _ hP va_S.rf (hlv ▸ hl)
  exact fun g r pc lv hp hd H locs ls hP hS hl => W.iret hx hb hr (fun t ht hW => ⟨⟨r, g, rfl, hp, by subst ht; exact hP⟩, hS.F ht⟩) hS.2.2 hd B.notSynchronized
theorem ct_z {l : Launch} {X : Gx} {y : MethodName} {cc : ByteArray} {maxL F Lc : Nat} {as : List Value} {f : Hp} {post : Int32 → Hp → Prop} {own : String} {lv : Lv} (hy : plainName y.cls = true) (ho : y.cls = own) (hsz : (lg_sl as).length ≤ maxL) (hsz2 : (lvE maxL as).length ≤ maxL) (hlv : lvE maxL as = lv)
    (body : ∀ C : Cx, cOK X (rmk F Lc) C cc own → (∀ (g : Hp) (r : Int32) (pc : Nat) (lv : Lv), post r g → narrow .boolean (.int r) = .int r → decode cc pc = .ok (.ireturn, 1) → V l X (rmk F Lc) C g pc lv [.int r]) → V l X (rmk F Lc) C f 0 lv []) : Ci l X y cc maxL (some .boolean) (rmk F Lc) as f post := by
  refine Met.ofW (cc := cc) (maxL := maxL) (ret := (some .boolean)) hy rfl ?_
  intro p e s m args below meth c s₁ B hml hv
  obtain ⟨rfl, hZ, hP⟩ := hv
  have hx := B.exec
  have hb := B.bytes
  have hr := B.returns
  have hts := atoms_spec (ws := Cond.code y cc maxL (some .boolean) :: tG) B.pre
  have hown : s.vm.findClass own = some m.cls := ho ▸ findClass_of_methodNamed B.named
  have hl := hasL_entry as hsz hsz2
  rw [lg_entry_eq]
  refine body (p, e, s, m, as.toArray, below, meth, c, maxL, _, 0, 0) ⟨hx, hb, hml, hown, fun w hw => hts w (List.mem_cons_of_mem _ hw), hZ, Nat.zero_le _, Nat.zero_le _⟩ ?_ _ _ _ hP va_S.rf (hlv ▸ hl)
  exact fun g r pc lv hp hnr hd H locs ls hP hS hl => W.zret hx hb hr hnr (fun t ht hW => ⟨⟨r, g, rfl, hp, by subst ht; exact hP⟩, hS.F ht⟩) hS.2.2 hd B.notSynchronized
theorem ct_b {l : Launch} {X : Gx} {y : MethodName} {cc : ByteArray} {maxL F Lc : Nat} {as : List Value} {f : Hp} {post : Int32 → Hp → Prop} {own : String} {lv : Lv} (hy : plainName y.cls = true) (ho : y.cls = own) (hsz : (lg_sl as).length ≤ maxL) (hsz2 : (lvE maxL as).length ≤ maxL) (hlv : lvE maxL as = lv)
    (body : ∀ C : Cx, cOK X (rmk F Lc) C cc own → (∀ (g : Hp) (r : Int32) (pc : Nat) (lv : Lv), post r g → narrow .byte (.int r) = .int r → decode cc pc = .ok (.ireturn, 1) → V l X (rmk F Lc) C g pc lv [.int r]) → V l X (rmk F Lc) C f 0 lv []) : Ci l X y cc maxL (some .byte) (rmk F Lc) as f post := by
  refine Met.ofW (cc := cc) (maxL := maxL) (ret := (some .byte)) hy rfl ?_
  intro p e s m args below meth c s₁ B hml hv
  obtain ⟨rfl, hZ, hP⟩ := hv
  have hx := B.exec
  have hb := B.bytes
  have hr := B.returns
  have hts := atoms_spec (ws := Cond.code y cc maxL (some .byte) :: tG) B.pre
  have hown : s.vm.findClass own = some m.cls := ho ▸ findClass_of_methodNamed B.named
  have hl := hasL_entry as hsz hsz2
  rw [lg_entry_eq]
  refine body (p, e, s, m, as.toArray, below, meth, c, maxL, _, 0, 0) ⟨hx, hb, hml, hown, fun w hw => hts w (List.mem_cons_of_mem _ hw), hZ, Nat.zero_le _, Nat.zero_le _⟩ ?_ _ _ _ hP va_S.rf (hlv ▸ hl)
  exact fun g r pc lv hp hnr hd H locs ls hP hS hl => W.zret hx hb hr hnr (fun t ht hW => ⟨⟨r, g, rfl, hp, by subst ht; exact hP⟩, hS.F ht⟩) hS.2.2 hd B.notSynchronized
theorem ct_c {l : Launch} {X : Gx} {y : MethodName} {cc : ByteArray} {maxL F Lc : Nat} {as : List Value} {f : Hp} {post : Int32 → Hp → Prop} {own : String} {lv : Lv} (hy : plainName y.cls = true) (ho : y.cls = own) (hsz : (lg_sl as).length ≤ maxL) (hsz2 : (lvE maxL as).length ≤ maxL) (hlv : lvE maxL as = lv)
    (body : ∀ C : Cx, cOK X (rmk F Lc) C cc own → (∀ (g : Hp) (r : Int32) (pc : Nat) (lv : Lv), post r g → narrow .char (.int r) = .int r → decode cc pc = .ok (.ireturn, 1) → V l X (rmk F Lc) C g pc lv [.int r]) → V l X (rmk F Lc) C f 0 lv []) : Ci l X y cc maxL (some .char) (rmk F Lc) as f post := by
  refine Met.ofW (cc := cc) (maxL := maxL) (ret := (some .char)) hy rfl ?_
  intro p e s m args below meth c s₁ B hml hv
  obtain ⟨rfl, hZ, hP⟩ := hv
  have hx := B.exec
  have hb := B.bytes
  have hr := B.returns
  have hts := atoms_spec (ws := Cond.code y cc maxL (some .char) :: tG) B.pre
  have hown : s.vm.findClass own = some m.cls := ho ▸ findClass_of_methodNamed B.named
  have hl := hasL_entry as hsz hsz2
  rw [lg_entry_eq]
  refine body (p, e, s, m, as.toArray, below, meth, c, maxL, _, 0, 0) ⟨hx, hb, hml, hown, fun w hw => hts w (List.mem_cons_of_mem _ hw), hZ, Nat.zero_le _, Nat.zero_le _⟩ ?_ _ _ _ hP va_S.rf (hlv ▸ hl)
  exact fun g r pc lv hp hnr hd H locs ls hP hS hl => W.zret hx hb hr hnr (fun t ht hW => ⟨⟨r, g, rfl, hp, by subst ht; exact hP⟩, hS.F ht⟩) hS.2.2 hd B.notSynchronized
theorem ct_v {l : Launch} {X : Gx} {y : MethodName} {cc : ByteArray} {maxL F Lc : Nat} {as : List Value} {f : Hp} {post : Hp → Prop} {own : String} {lv : Lv} (hy : plainName y.cls = true) (ho : y.cls = own) (hsz : (lg_sl as).length ≤ maxL) (hsz2 : (lvE maxL as).length ≤ maxL) (hlv : lvE maxL as = lv)
    (body : ∀ C : Cx, cOK X (rmk F Lc) C cc own → (∀ (g : Hp) (pc : Nat) (lv : Lv), post g → decode cc pc = .ok (.return_, 1) → V l X (rmk F Lc) C g pc lv []) → V l X (rmk F Lc) C f 0 lv []) : Cv l X y cc maxL (none) (rmk F Lc) as f post := by
  refine Met.ofW (cc := cc) (maxL := maxL) (ret := (none)) hy rfl ?_
  intro p e s m args below meth c s₁ B hml hv
  obtain ⟨rfl, hZ, hP⟩ := hv
  have hx := B.exec
  have hb := B.bytes
  have hr := B.returns
  have hts := atoms_spec (ws := Cond.code y cc maxL (none) :: tG) B.pre
  have hown : s.vm.findClass own = some m.cls := ho ▸ findClass_of_methodNamed B.named
  have hl := hasL_entry as hsz hsz2
  rw [lg_entry_eq]
  refine body (p, e, s, m, as.toArray, below, meth, c, maxL, _, 0, 0) ⟨hx, hb, hml, hown, fun w hw => hts w (List.mem_cons_of_mem _ hw), hZ, Nat.zero_le _, Nat.zero_le _⟩ ?_ _ _ _ hP va_S.rf (hlv ▸ hl)
  exact fun g pc lv hp hd H locs ls hP hS hl => W.vret hx hb hr (fun t ht hW => ⟨⟨g, rfl, hp, by subst ht; exact hP⟩, hS.F ht⟩) hS.2.2 hd B.notSynchronized
theorem ct_l {l : Launch} {X : Gx} {y : MethodName} {cc : ByteArray} {maxL F Lc : Nat} {as : List Value} {f : Hp} {post : Int64 → Hp → Prop} {own : String} {lv : Lv} (hy : plainName y.cls = true) (ho : y.cls = own) (hsz : (lg_sl as).length ≤ maxL) (hsz2 : (lvE maxL as).length ≤ maxL) (hlv : lvE maxL as = lv)
    (body : ∀ C : Cx, cOK X (rmk F Lc) C cc own → (∀ (g : Hp) (r : Int64) (pc : Nat) (lv : Lv), post r g → decode cc pc = .ok (.lreturn, 1) → V l X (rmk F Lc) C g pc lv [.long r]) → V l X (rmk F Lc) C f 0 lv []) : Cl l X y cc maxL (some .long) (rmk F Lc) as f post := by
  refine Met.ofW (cc := cc) (maxL := maxL) (ret := (some .long)) hy rfl ?_
  intro p e s m args below meth c s₁ B hml hv
  obtain ⟨rfl, hZ, hP⟩ := hv
  have hx := B.exec
  have hb := B.bytes
  have hr := B.returns
  have hts := atoms_spec (ws := Cond.code y cc maxL (some .long) :: tG) B.pre
  have hown : s.vm.findClass own = some m.cls := ho ▸ findClass_of_methodNamed B.named
  have hl := hasL_entry as hsz hsz2
  rw [lg_entry_eq]
  refine body (p, e, s, m, as.toArray, below, meth, c, maxL, _, 0, 0) ⟨hx, hb, hml, hown, fun w hw => hts w (List.mem_cons_of_mem _ hw), hZ, Nat.zero_le _, Nat.zero_le _⟩ ?_ _ _ _ hP va_S.rf (hlv ▸ hl)
  exact fun g r pc lv hp hd H locs ls hP hS hl => W.lret hx hb hr (fun t ht hW => ⟨⟨r, g, rfl, hp, by subst ht; exact hP⟩, hS.F ht⟩) hS.2.2 hd B.notSynchronized
theorem ct_r {l : Launch} {X : Gx} {y : MethodName} {cc : ByteArray} {maxL F Lc : Nat} {nm : String} {as : List Value} {f : Hp} {post : Nat → Hp → Prop} {own : String} {lv : Lv} (hy : plainName y.cls = true) (ho : y.cls = own) (hsz : (lg_sl as).length ≤ maxL) (hsz2 : (lvE maxL as).length ≤ maxL) (hlv : lvE maxL as = lv)
    (body : ∀ C : Cx, cOK X (rmk F Lc) C cc own → (∀ (g : Hp) (r : Nat) (pc : Nat) (lv : Lv), post r g → decode cc pc = .ok (.areturn, 1) → V l X (rmk F Lc) C g pc lv [.ref r]) → V l X (rmk F Lc) C f 0 lv []) : Cr l X y cc maxL (some (.object nm)) (rmk F Lc) as f post := by
  refine Met.ofW (cc := cc) (maxL := maxL) (ret := (some (.object nm))) hy rfl ?_
  intro p e s m args below meth c s₁ B hml hv
  obtain ⟨rfl, hZ, hP⟩ := hv
  have hx := B.exec
  have hb := B.bytes
  have hr := B.returns
  have hts := atoms_spec (ws := Cond.code y cc maxL (some (.object nm)) :: tG) B.pre
  have hown : s.vm.findClass own = some m.cls := ho ▸ findClass_of_methodNamed B.named
  have hl := hasL_entry as hsz hsz2
  rw [lg_entry_eq]
  refine body (p, e, s, m, as.toArray, below, meth, c, maxL, _, 0, 0) ⟨hx, hb, hml, hown, fun w hw => hts w (List.mem_cons_of_mem _ hw), hZ, Nat.zero_le _, Nat.zero_le _⟩ ?_ _ _ _ hP va_S.rf (hlv ▸ hl)
  exact fun g r pc lv hp hd H locs ls hP hS hl => W.aret hx hb hr (Or.inl ⟨_, rfl⟩) (Or.inr ⟨r, rfl⟩) (fun t ht hW => ⟨⟨g, r, rfl, trivial, hp, by subst ht; exact hP⟩, hS.F ht⟩) hS.2.2 hd B.notSynchronized
