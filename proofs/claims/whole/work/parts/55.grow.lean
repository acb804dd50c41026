/-! ===== a world that grows: cells 0 .. n - 1 in the order of their making, addresses a, contents f ===== -/
def gn (a : Nat → Nat) (n : Nat) (f : Hp) : va_W := (List.range n).map (fun k => (a k, f k))
theorem gn_at {a : Nat → Nat} {n : Nat} {f : Hp} {k : Nat} (h : k < n) : (gn a n f)[k]? = some (a k, f k) := by simp [gn, h]
theorem gn_len {a : Nat → Nat} {n : Nat} {f : Hp} : (gn a n f).length = n := by simp [gn]
theorem gn_up {a : Nat → Nat} {n : Nat} {f : Hp} {k : Nat} {e : va_E} : (gn a n f).set k (a k, e) = gn a n (va_up f k e) := by
  apply List.ext_getElem?
  intro j
  by_cases hj : j < n
  · by_cases e1 : k = j
    · subst e1
      rw [List.getElem?_set_self (by rw [gn_len]; exact hj), gn_at hj, va_up_self]
    · rw [List.getElem?_set_ne e1, gn_at hj, gn_at hj, va_up_ne _ _ (Ne.symm e1)]
  · rw [List.getElem?_eq_none (by rw [List.length_set, gn_len]; omega), List.getElem?_eq_none (by rw [gn_len]; omega)]
theorem gn_push {a : Nat → Nat} {n : Nat} {f : Hp} {q : Nat} {e : va_E} : gn a n f ++ [(q, e)] = gn (va_up a n q) (n + 1) (va_up f n e) := by
  apply List.ext_getElem?
  intro j
  rcases Nat.lt_trichotomy j n with hj | hj | hj
  · rw [List.getElem?_append_left (by rw [gn_len]; exact hj), gn_at hj, gn_at (by omega), va_up_ne _ _ (by omega), va_up_ne _ _ (by omega)]
  · subst hj
    rw [List.getElem?_append_right (by rw [gn_len]; omega), gn_at (by omega), gn_len, Nat.sub_self, va_up_self, va_up_self]
    rfl
  · rw [List.getElem?_eq_none (by rw [List.length_append, gn_len]; simp; omega), List.getElem?_eq_none (by rw [gn_len]; omega)]
/-- what the constructors need of the tables -/
def zK (X : Gx) (U : State) : Prop := va_K (gD X) vwCl (gty X) U ∧ va_AO RX0 U ∧ va_AO RX2 U ∧ va_Nw (.methodLinkNest RX1 28 yX0_init RX5) U ∧ va_Nw (.methodLinkNest RX5 24 yX0_init RX5) U ∧ va_Nw (.methodLinkNest RX5 31 yX3_init RX5) U ∧ va_Nw (.methodLinkNest RX5 50 yX2_init RX5) U
theorem zK.calling {X : Gx} {U : State} {g : JFrame} {mk : MethodId} {as : Array Value} (h : zK X U) : zK X (U.calling g mk as) := by
  obtain ⟨h1, h2, h3, h4, h5, h6, h7⟩ := h
  have al : U.vm.Alike (U.calling g mk as).vm := Vm.Alike.refl U.vm
  exact ⟨va_K.moved al h1, va_AO.moved al h2, va_AO.moved al h3, va_Nw.same rfl rfl h4, va_Nw.same rfl rfl h5, va_Nw.same rfl rfl h6, va_Nw.same rfl rfl h7⟩
theorem zK.warm {X : Gx} {s U : State} (h : zK X s) (hW : s.WarmedH U.vm) : zK X U := by
  obtain ⟨h1, h2, h3, h4, h5, h6, h7⟩ := h
  have al := hW.alike
  exact ⟨va_K.moved al h1, va_AO.moved al h2, va_AO.moved al h3, va_Nw.warmM hW h4, va_Nw.warmM hW h5, va_Nw.warmM hW h6, va_Nw.warmM hW h7⟩
def VN (l : Launch) (X : Gx) (A : Nat → Prop) (R : Room) (C : Cx) (a : Nat → Nat) (n : Nat) (f : Hp) (kc ks : Nat) (pc : Nat) (lv : Lv) (st : List Value) : Prop := match C with
  | (p, e, s, m, args, below, meth, c, nL, Q, _, _) => ∀ (H : Heap) (locs : List Loc) (ls : Array Slot), va_P (gD X) vwCl (gn a n f) H → va_D A (gn a n f) → va_S A s.heap H locs → hasL ls nL lv → W p l e R s m args below meth c H locs kc ks Q (F0 m pc ls st)
def cON (X : Gx) (A : Nat → Prop) (C : Cx) (cc : ByteArray) (own : String) : Prop := match C with
  | (p, _, s, m, args, _, _, c, nL, _, _, _) => p.tables.exec = Jvm.exec ∧ c.code = cc ∧ c.maxLocals = nL ∧ s.vm.findClass own = some m.cls ∧ (∀ w ∈ tG, w.before args s = true) ∧ zK X s ∧ (∀ q, s.heap.size ≤ q → A q)
def cIn (C : Cx) : Prop := match C with
  | (_, _, _, _, _, _, meth, _, _, _, _, _) => meth.name = "<init>"
def rmC (F L mc ms : Nat) : Room := { frames := F, cells := mc, slots := ms, locals := L }
/-- a constructor's contract: this is cell i -/
def Cn (l : Launch) (X : Gx) (y : MethodName) (bytes : ByteArray) (maxL : Nat) (F L : Nat) (a : Nat → Nat) (n : Nat) (f : Hp) (i sz mc ms n' : Nat) (post : (Nat → Nat) → Hp → Prop) : Prop :=
  Met l y (Cond.code y bytes maxL none :: tG) (rmC F L mc ms) (va_Pc [.ref (a i)] (fun U => zK X U ∧ U.heap.size = sz ∧ va_P (gD X) vwCl (gn a n f) U.heap ∧ va_D (fun _ => True) (gn a n f))) (va_Qv (fun u : (Nat → Nat) × Hp => post u.1 u.2) (fun u t => va_P (gD X) vwCl (gn u.1 n' u.2) t.heap ∧ va_D (va_A (gn a n f) sz) (gn u.1 n' u.2)) (va_A (gn a n f) sz)) mc ms (va_A (gn a n f) sz)
def PTf (own : String) (ci j : Nat) (ty : FieldType) : Prop := ∃ (Cn : String) (T : u_T) (N : Nat) (ty0 : Nat → FieldType), vwCl[ci]? = some (Cn, T, N) ∧ (∀ k, k < N → parseFieldDescriptor (T k).2.2.1 = some (ty0 k)) ∧ (∀ a, a < N → ∀ b, b < N → a ≠ b → (T a).2.1 ≠ (T b).2.1) ∧ (T j).2.2.2 = true ∧ (T j).1 = own ∧ parseFieldDescriptor (T j).2.2.1 = some ty
section VNK
variable {l : Launch} {X : Gx} {A : Nat → Prop} {R : Room} {C : Cx} {a : Nat → Nat} {n : Nat} {f : Hp} {kc ks pc q t : Nat} {lv : Lv} {st : List Value} {cc : ByteArray} {own : String}
theorem n_eq {a' : Nat → Nat} {f' : Hp} (h : gn a n f = gn a' n f') (k : VN l X A R C a' n f' kc ks pc lv st) : VN l X A R C a n f kc ks pc lv st := by
  obtain ⟨p, e, s, m, args, below, meth, c, nL, Q, k0, k1⟩ := C
  intro H locs ls hP hD hS hl
  rw [h] at hP hD
  exact k H locs ls hP hD hS hl
theorem n_self {i : Nat} {e : va_E} (h : f i = e) (k : VN l X A R C a n (va_up f i e) kc ks pc lv st) : VN l X A R C a n f kc ks pc lv st := by
  rw [← h, up_id] at k; exact k
theorem n_same {a' : Nat → Nat} {f' : Hp} {lv' : Lv} {st' : List Value} (h1 : a = a') (h2 : f = f') (h3 : lv = lv') (h4 : st = st') (k : VN l X A R C a' n f' kc ks pc lv' st') : VN l X A R C a n f kc ks pc lv st := by
  subst h1; subst h2; subst h3; subst h4; exact k
theorem n_iconst (hC : cON X A C cc own) {z : Int} {v : Int32} (hv : Int32.ofInt z = v) (d : decode cc pc = .ok (.iconst z, 1)) (hq : pc + 1 = q) (k : VN l X A R C a n f kc ks q lv (.int v :: st)) : VN l X A R C a n f kc ks pc lv (st) := by
  obtain ⟨p, e, s, m, args, below, meth, c, nL, Q, k0, k1⟩ := C
  subst hq
  intro H locs ls hP hD hS hl
  exact lv_iconst hC.1 hC.2.1 d hv (k H locs ls hP hD hS hl)
theorem n_bipush (hC : cON X A C cc own) {z : Int} {v : Int32} (hv : (Int8.ofInt z).toInt32 = v) (d : decode cc pc = .ok (.bipush z, 2)) (hq : pc + 2 = q) (k : VN l X A R C a n f kc ks q lv (.int v :: st)) : VN l X A R C a n f kc ks pc lv (st) := by
  obtain ⟨p, e, s, m, args, below, meth, c, nL, Q, k0, k1⟩ := C
  subst hq
  intro H locs ls hP hD hS hl
  exact lv_bipush hC.1 hC.2.1 d hv (k H locs ls hP hD hS hl)
theorem n_sipush (hC : cON X A C cc own) {z : Int} {v : Int32} (hv : (Int16.ofInt z).toInt32 = v) (d : decode cc pc = .ok (.sipush z, 3)) (hq : pc + 3 = q) (k : VN l X A R C a n f kc ks q lv (.int v :: st)) : VN l X A R C a n f kc ks pc lv (st) := by
  obtain ⟨p, e, s, m, args, below, meth, c, nL, Q, k0, k1⟩ := C
  subst hq
  intro H locs ls hP hD hS hl
  exact lv_sipush hC.1 hC.2.1 d hv (k H locs ls hP hD hS hl)
theorem n_iload_n (hC : cON X A C cc own) {j : Fin 4} {x : Int32} (hv : lv[(j : Nat)]? = some (some (.int x))) (d : decode cc pc = .ok (.iload_n j, 1)) (hq : pc + 1 = q) (k : VN l X A R C a n f kc ks q lv (.int x :: st)) : VN l X A R C a n f kc ks pc lv (st) := by
  obtain ⟨p, e, s, m, args, below, meth, c, nL, Q, k0, k1⟩ := C
  subst hq
  intro H locs ls hP hD hS hl
  exact lv_iload_n hC.1 hC.2.1 d rfl (hl.2.2.1 _ _ hv) (k H locs ls hP hD hS hl)
theorem n_aload_n (hC : cON X A C cc own) {j : Fin 4} {x : Nat} (hv : lv[(j : Nat)]? = some (some (.ref x))) (d : decode cc pc = .ok (.aload_n j, 1)) (hq : pc + 1 = q) (k : VN l X A R C a n f kc ks q lv (.ref x :: st)) : VN l X A R C a n f kc ks pc lv (st) := by
  obtain ⟨p, e, s, m, args, below, meth, c, nL, Q, k0, k1⟩ := C
  subst hq
  intro H locs ls hP hD hS hl
  exact lv_aload_n hC.1 hC.2.1 d rfl (hl.2.2.1 _ _ hv) (k H locs ls hP hD hS hl)
theorem n_dup (hC : cON X A C cc own) {va : Value} (hva : va.category = 1) (d : decode cc pc = .ok (.dup, 1)) (hq : pc + 1 = q) (k : VN l X A R C a n f kc ks q lv (va :: va :: st)) : VN l X A R C a n f kc ks pc lv (va :: st) := by
  obtain ⟨p, e, s, m, args, below, meth, c, nL, Q, k0, k1⟩ := C
  subst hq
  intro H locs ls hP hD hS hl
  exact lv_dup hC.1 hC.2.1 d hva (k H locs ls hP hD hS hl)
theorem n_istore_1 (hC : cON X A C cc own) {a0 : Option Value} {b : Option Value} {x : Int32} (hp : cat1 a0 = true) (d : decode cc pc = .ok (.istore_n 1, 1)) (hq : pc + 1 = q) (k : VN l X A R C a n f kc ks q (a0 :: some (.int x) :: lv) st) : VN l X A R C a n f kc ks pc (a0 :: b :: lv) (.int x :: st) := by
  obtain ⟨p, e, s, m, args, below, meth, c, nL, Q, k0, k1⟩ := C
  subst hq
  intro H locs ls hP hD hS hl
  have hn := Nat.lt_of_lt_of_le (show 1 < (a0 :: b :: lv).length by simp) hl.2.2.2
  exact lv_istore_n hC.1 hC.2.1 d rfl hl.prs hn rfl (fun ls' h => k H locs ls' hP hD hS (hasL_set1 (lv := a0 :: b :: lv) (i := 1) (v := .int x) (by simp) hl.2.2.2 hp h))
theorem n_istore_3 (hC : cON X A C cc own) {a0 a1 a2 : Option Value} {b : Option Value} {x : Int32} (hp : cat1 a2 = true) (d : decode cc pc = .ok (.istore_n 3, 1)) (hq : pc + 1 = q) (k : VN l X A R C a n f kc ks q (a0 :: a1 :: a2 :: some (.int x) :: lv) st) : VN l X A R C a n f kc ks pc (a0 :: a1 :: a2 :: b :: lv) (.int x :: st) := by
  obtain ⟨p, e, s, m, args, below, meth, c, nL, Q, k0, k1⟩ := C
  subst hq
  intro H locs ls hP hD hS hl
  have hn := Nat.lt_of_lt_of_le (show 3 < (a0 :: a1 :: a2 :: b :: lv).length by simp) hl.2.2.2
  exact lv_istore_n hC.1 hC.2.1 d rfl hl.prs hn rfl (fun ls' h => k H locs ls' hP hD hS (hasL_set1 (lv := a0 :: a1 :: a2 :: b :: lv) (i := 3) (v := .int x) (by simp) hl.2.2.2 hp h))
theorem n_astore_1 (hC : cON X A C cc own) {a0 : Option Value} {b : Option Value} {x : Nat} (hp : cat1 a0 = true) (d : decode cc pc = .ok (.astore_n 1, 1)) (hq : pc + 1 = q) (k : VN l X A R C a n f kc ks q (a0 :: some (.ref x) :: lv) st) : VN l X A R C a n f kc ks pc (a0 :: b :: lv) (.ref x :: st) := by
  obtain ⟨p, e, s, m, args, below, meth, c, nL, Q, k0, k1⟩ := C
  subst hq
  intro H locs ls hP hD hS hl
  have hn := Nat.lt_of_lt_of_le (show 1 < (a0 :: b :: lv).length by simp) hl.2.2.2
  exact lv_astore_n hC.1 hC.2.1 d rfl hl.prs hn rfl (fun ls' h => k H locs ls' hP hD hS (hasL_set1 (lv := a0 :: b :: lv) (i := 1) (v := .ref x) (by simp) hl.2.2.2 hp h))
theorem n_astore_2 (hC : cON X A C cc own) {a0 a1 : Option Value} {b : Option Value} {x : Nat} (hp : cat1 a1 = true) (d : decode cc pc = .ok (.astore_n 2, 1)) (hq : pc + 1 = q) (k : VN l X A R C a n f kc ks q (a0 :: a1 :: some (.ref x) :: lv) st) : VN l X A R C a n f kc ks pc (a0 :: a1 :: b :: lv) (.ref x :: st) := by
  obtain ⟨p, e, s, m, args, below, meth, c, nL, Q, k0, k1⟩ := C
  subst hq
  intro H locs ls hP hD hS hl
  have hn := Nat.lt_of_lt_of_le (show 2 < (a0 :: a1 :: b :: lv).length by simp) hl.2.2.2
  exact lv_astore_n hC.1 hC.2.1 d rfl hl.prs hn rfl (fun ls' h => k H locs ls' hP hD hS (hasL_set1 (lv := a0 :: a1 :: b :: lv) (i := 2) (v := .ref x) (by simp) hl.2.2.2 hp h))
theorem n_iinc_1 (hC : cON X A C cc own) {a0 : Option Value} {z : Int} {x v : Int32} (hp : cat1 a0 = true) (hv : x + Int32.ofInt z = v) (d : decode cc pc = .ok (.iinc 1 z, 3)) (hq : pc + 3 = q) (k : VN l X A R C a n f kc ks q (a0 :: some (.int v) :: lv) st) : VN l X A R C a n f kc ks pc (a0 :: some (.int x) :: lv) st := by
  obtain ⟨p, e, s, m, args, below, meth, c, nL, Q, k0, k1⟩ := C
  subst hq
  intro H locs ls hP hD hS hl
  have hm : (1, Value.int x) ∈ prs (a0 :: some (.int x) :: lv) := prs_mem.mpr rfl
  obtain ⟨k9, hk9⟩ := List.getElem?_of_mem hm
  have hn := Nat.lt_of_lt_of_le (show 1 < (a0 :: some (.int x) :: lv).length by simp) hl.2.2.2
  exact lv_iinc hC.1 hC.2.1 d hl.prs hk9 hv hn rfl (fun ls' h => k H locs ls' hP hD hS (hasL_set1 (lv := a0 :: some (.int x) :: lv) (i := 1) (v := .int v) (by simp) hl.2.2.2 hp h))
theorem n_icmp_ge (hC : cON X A C cc own) {x y : Int32} {off : Int} (d : decode cc pc = .ok (.if_icmp .ge off, 3)) (ht : (pc : Int) + off = (t : Int)) (hq : pc + 3 = q) (kt : y ≤ x → VN l X A R C a n f kc ks t lv st) (kf : ¬ y ≤ x → VN l X A R C a n f kc ks q lv st) : VN l X A R C a n f kc ks pc lv (.int y :: .int x :: st) := by
  obtain ⟨p, e, s, m, args, below, meth, c, nL, Q, k0, k1⟩ := C
  subst hq
  intro H locs ls hP hD hS hl
  exact lv_icmp_ge hC.1 hC.2.1 d ht (fun h => kt h H locs ls hP hD hS hl) (fun h => kf h H locs ls hP hD hS hl)
theorem n_goto (hC : cON X A C cc own) {off : Int} (d : decode cc pc = .ok (.goto off, 3)) (ht : (pc : Int) + off = (t : Int)) (k : VN l X A R C a n f kc ks t lv st) : VN l X A R C a n f kc ks pc lv st := by
  obtain ⟨p, e, s, m, args, below, meth, c, nL, Q, k0, k1⟩ := C
  intro H locs ls hP hD hS hl
  exact lv_goto hC.1 hC.2.1 d ht (k H locs ls hP hD hS hl)
theorem n_obj (hC : cON X A C cc own) {idx x : Nat} (hw : Cond.methodLink own idx objectInit ∈ tG) (hR : 1 ≤ R.frames ∧ 2 * 0 + (st.map fun v => v.category).sum + 12 ≤ R.locals) (d : decode cc pc = .ok (.invokespecial idx, 3)) (hq : pc + 3 = q) (k : VN l X A R C a n f kc ks q lv st) : VN l X A R C a n f kc ks pc lv (.ref x :: st) := by
  obtain ⟨p, e, s, m, args, below, meth, c, nL, Q, k0, k1⟩ := C
  subst hq
  intro H locs ls hP hD hS hl
  exact W.objInit hC.1 hC.2.1 hC.2.2.2.1 (hC.2.2.2.2.1 _ hw) (hC.2.2.2.2.1 _ wI_O_init) (hC.2.2.2.2.1 _ wd_O_init) rfl (by rw [hC.2.2.1]; exact hl.1) rfl d hR.1 hR.2 (k H locs ls hP hD hS hl)
theorem n_get (hC : cON X A C cc own) {idx ci j i : Nat} {fs : List Value} {v : Value} (hF : FLk own idx ci j) (hi : i < n) (hf : f i = .inr (ci, fs)) (hv : fs[j]? = some v) (d : decode cc pc = .ok (.getfield idx, 3)) (hq : pc + 3 = q) (k : VN l X A R C a n f kc ks q lv (v :: st)) : VN l X A R C a n f kc ks pc lv (.ref (a i) :: st) := by
  obtain ⟨p, e, s, m, args, below, meth, c, nL, Q, k0, k1⟩ := C
  subst hq
  intro H locs ls hP hD hS hl
  obtain ⟨Cn, T, N, h1, h2, h3, h4⟩ := hF
  exact va_get (D := gD X) hC.1 hC.2.1 hC.2.2.2.2.1 h2 hC.2.2.2.1 hC.2.2.2.2.2.1.1 hP i (by rw [gn_at hi, hf]) h1 j h3 (hC.2.2.2.2.1 _ h4) (fun _ h9 => h9) hv d (k H locs ls hP hD hS hl)
theorem n_put (hC : cON X A C cc own) {idx ci j i : Nat} {fs : List Value} {v : Value} {ty : FieldType} (hF : FLk own idx ci j) (hT : PTy ci j ty) (hi : i < n) (hf : f i = .inr (ci, fs)) (hj : j < fs.length) (hn : narrow ty v = v) (hfit : fits ty v = true) (d : decode cc pc = .ok (.putfield idx, 3)) (hq : pc + 3 = q) (k : VN l X A R C a n (va_up f i (.inr (ci, fs.set j v))) kc ks q lv st) : VN l X A R C a n f kc ks pc lv (v :: .ref (a i) :: st) := by
  obtain ⟨p, e, s, m, args, below, meth, c, nL, Q, k0, k1⟩ := C
  subst hq
  intro H locs ls hP hD hS hl
  obtain ⟨Cn, T, N, h1, h2, h3, h4⟩ := hF
  obtain ⟨Cn', T', N', ty0, g1, g2, g3, g4, g5⟩ := hT
  cases h1.symm.trans g1
  exact va_put (D := gD X) hC.1 hC.2.1 hC.2.2.2.2.1 h2 ty0 g2 g3 hC.2.2.2.1 hC.2.2.2.2.2.1.1 hP hD hS i (by rw [gn_at hi, hf]) h1 j h3 (hC.2.2.2.2.1 _ h4) (fun _ h9 => h9) g4 g5 hn hfit hj d (fun H1 locs1 hP1 hD1 hS1 => k H1 locs1 ls (by rw [← gn_up]; exact hP1) (by rw [← gn_up]; exact hD1) hS1 hl)
theorem n_putF (hC : cON X A C cc own) (hI : cIn C) {idx ci j i : Nat} {fs : List Value} {v : Value} {ty : FieldType} (hF : FLk own idx ci j) (hT : PTf own ci j ty) (hi : i < n) (hf : f i = .inr (ci, fs)) (hj : j < fs.length) (hn : narrow ty v = v) (hfit : fits ty v = true) (d : decode cc pc = .ok (.putfield idx, 3)) (hq : pc + 3 = q) (k : VN l X A R C a n (va_up f i (.inr (ci, fs.set j v))) kc ks q lv st) : VN l X A R C a n f kc ks pc lv (v :: .ref (a i) :: st) := by
  obtain ⟨p, e, s, m, args, below, meth, c, nL, Q, k0, k1⟩ := C
  subst hq
  intro H locs ls hP hD hS hl
  obtain ⟨Cn, T, N, h1, h2, h3, h4⟩ := hF
  obtain ⟨Cn', T', N', ty0, g1, g2, g3, g4, g6, g5⟩ := hT
  cases h1.symm.trans g1
  exact va_putF (D := gD X) hC.1 hC.2.1 hC.2.2.2.2.1 h2 ty0 g2 g3 hC.2.2.2.1 hC.2.2.2.2.2.1.1 hP hD hS i (by rw [gn_at hi, hf]) h1 j h3 (hC.2.2.2.2.1 _ h4) (fun _ h9 => h9) g4 hI g6 g5 hn hfit hj d (fun H1 locs1 hP1 hD1 hS1 => k H1 locs1 ls (by rw [← gn_up]; exact hP1) (by rw [← gn_up]; exact hD1) hS1 hl)
theorem n_new (hC : cON X A C cc own) {idx ci N : Nat} {Cn : String} {T : u_T} {fs : List Value} (ty : Nat → FieldType) (hty : ∀ k, k < N → parseFieldDescriptor (T k).2.2.1 = some (ty k)) (hin : ∀ w ∈ u_ws Cn T N, w ∈ tG) (hw : Cond.classLink own idx Cn ∈ tG) (hw2 : Cond.instantiable Cn N ∈ tG) (hw3 : Cond.initialized Cn ∈ tG) (hc : vwCl[ci]? = some (Cn, T, N)) (hfs : ∀ j, j < N → defaultValue (ty j) = vp_V fs j) (hR : kc + 1 ≤ R.cells ∧ ks + N ≤ R.slots) (d : decode cc pc = .ok (.new idx, 3)) (hq : pc + 3 = q) (k : ∀ x : Nat, VN l X A R C (va_up a n x) (n + 1) (va_up f n (.inr (ci, fs))) (kc + 1) (ks + N) q lv (.ref x :: st)) : VN l X A R C a n f kc ks pc lv st := by
  obtain ⟨p, e, s, m, args, below, meth, c, nL, Q, k0, k1⟩ := C
  subst hq
  intro H locs ls hP hD hS hl
  exact va_new (D := gD X) hC.1 hC.2.1 hC.2.2.2.2.1 hin ty hty hC.2.2.2.1 (hC.2.2.2.2.1 _ hw) (hC.2.2.2.2.1 _ hw2) (hC.2.2.2.2.1 _ hw3) hC.2.2.2.2.2.1.1 hP hD hS hC.2.2.2.2.2.2 hc hfs hR.1 hR.2 d (fun x H1 hP1 hD1 hS1 => k x H1 locs ls (by rw [← gn_push]; exact hP1) (by rw [← gn_push]; exact hD1) hS1 hl)
theorem n_newI (hC : cON X A C cc own) {z : Int32} {N : Nat} (hz : ¬ z < 0) (hN : z.toNatClampNeg = N) (hb : N * 4 ≤ 536870912) (hR : kc + 1 ≤ R.cells ∧ ks + N ≤ R.slots) (d : decode cc pc = .ok (.newarray .int, 2)) (hq : pc + 2 = q) (k : ∀ x : Nat, VN l X A R C (va_up a n x) (n + 1) (va_up f n (.inl (gc X 0, N, .inl (fun _ => 0)))) (kc + 1) (ks + N) q lv (.ref x :: st)) : VN l X A R C a n f kc ks pc lv (.int z :: st) := by
  obtain ⟨p, e, s, m, args, below, meth, c, nL, Q, k0, k1⟩ := C
  subst hq
  intro H locs ls hP hD hS hl
  refine va_newa (D := gD X) (atype := .int) (a0 := (N, .inl (fun _ => 0))) hC.1 hC.2.1 (hC.2.2.2.2.1 _ wa_int) rfl hC.2.2.2.2.2.1.1 hP hD hS hC.2.2.2.2.2.2 (fun cA => rfl) hz hN hb hR.1 hR.2 d (fun x cA H1 hK1 hP1 hD1 hS1 => ?_)
  have e1 := (hK1.2 4 (cA, .int) rfl).2
  have e2 := (hC.2.2.2.2.2.1.1.2 0 (gc X 0, .int) rfl).2
  have e3 : cA = gc X 0 := Option.some.inj (e1.symm.trans e2)
  subst e3
  exact k x H1 locs ls (by rw [← gn_push]; exact hP1) (by rw [← gn_push]; exact hD1) hS1 hl
theorem n_newJ (hC : cON X A C cc own) {z : Int32} {N : Nat} (hz : ¬ z < 0) (hN : z.toNatClampNeg = N) (hb : N * 8 ≤ 536870912) (hR : kc + 1 ≤ R.cells ∧ ks + N ≤ R.slots) (d : decode cc pc = .ok (.newarray .long, 2)) (hq : pc + 2 = q) (k : ∀ x : Nat, VN l X A R C (va_up a n x) (n + 1) (va_up f n (.inl (gc X 1, N, .inr (.inl (fun _ => 0))))) (kc + 1) (ks + N) q lv (.ref x :: st)) : VN l X A R C a n f kc ks pc lv (.int z :: st) := by
  obtain ⟨p, e, s, m, args, below, meth, c, nL, Q, k0, k1⟩ := C
  subst hq
  intro H locs ls hP hD hS hl
  refine va_newa (D := gD X) (atype := .long) (a0 := (N, .inr (.inl (fun _ => 0)))) hC.1 hC.2.1 (hC.2.2.2.2.1 _ wa_long) rfl hC.2.2.2.2.2.1.1 hP hD hS hC.2.2.2.2.2.2 (fun cA => rfl) hz hN hb hR.1 hR.2 d (fun x cA H1 hK1 hP1 hD1 hS1 => ?_)
  have e1 := (hK1.2 4 (cA, .long) rfl).2
  have e2 := (hC.2.2.2.2.2.1.1.2 1 (gc X 1, .long) rfl).2
  have e3 : cA = gc X 1 := Option.some.inj (e1.symm.trans e2)
  subst e3
  exact k x H1 locs ls (by rw [← gn_push]; exact hP1) (by rw [← gn_push]; exact hD1) hS1 hl
theorem n_anew (hC : cON X A C cc own) (tt : Nat) {idx : Nat} {Cn : String} (hgt : (gty X)[tt]? = some (gc X tt, .object Cn)) (hw : Cond.classLink own idx Cn ∈ tG) (hov : ∀ U, zK X U → va_AO Cn U) {z : Int32} {N : Nat} (hz : ¬ z < 0) (hN : z.toNatClampNeg = N) (hb : N * 4 ≤ 536870912) (hR : kc + 1 ≤ R.cells ∧ ks + N ≤ R.slots) (d : decode cc pc = .ok (.anewarray idx, 3)) (hq : pc + 3 = q) (k : ∀ x : Nat, VN l X A R C (va_up a n x) (n + 1) (va_up f n (.inl (gc X tt, N, .inr (.inr (.inr (.inr (fun _ => none))))))) (kc + 1) (ks + N) q lv (.ref x :: st)) : VN l X A R C a n f kc ks pc lv (.int z :: st) := by
  obtain ⟨p, e, s, m, args, below, meth, c, nL, Q, k0, k1⟩ := C
  subst hq
  intro H locs ls hP hD hS hl
  refine va_newq (D := gD X) hC.1 hC.2.1 hC.2.2.2.1 (hC.2.2.2.2.1 _ hw) (hov _ hC.2.2.2.2.2.1) hC.2.2.2.2.2.1.1 hP hD hS hC.2.2.2.2.2.2 hz hN hb hR.1 hR.2 d (fun x cA H1 hK1 hP1 hD1 hS1 => ?_)
  obtain ⟨_, _, -, -, -, e1⟩ := (hK1.2 4 (cA, .object Cn) rfl).2
  obtain ⟨_, _, -, -, -, e2⟩ := (hC.2.2.2.2.2.1.1.2 tt (gc X tt, .object Cn) hgt).2
  have e3 : cA = gc X tt := Option.some.inj (e1.symm.trans e2)
  subst e3
  exact k x H1 locs ls (by rw [← gn_push]; exact hP1) (by rw [← gn_push]; exact hD1) hS1 hl
theorem n_aast (hC : cON X A C cc own) (tt : Nat) {i1 i2 N ci j : Nat} {r : vw_C} {cA : ClassId} {vs : List Value} {g : Nat → Option Nat} {z : Int32} (hi1 : i1 < n) (hf1 : f i1 = .inl (cA, N, .inr (.inr (.inr (.inr g))))) (hgt : (gty X)[tt]? = some (cA, .object r.1)) (hi2 : i2 < n) (hf2 : f i2 = .inr (ci, vs)) (hc : vwCl[ci]? = some r) (hz : vp_in z N) (hj : z.toNatClampNeg = j) (d : decode cc pc = .ok (.aastore, 1)) (hq : pc + 1 = q) (k : VN l X A R C a n (va_up f i1 (.inl (cA, N, .inr (.inr (.inr (.inr (va_up g j (some (a i2)))))))))  kc ks q lv st) : VN l X A R C a n f kc ks pc lv (.ref (a i2) :: .int z :: .ref (a i1) :: st) := by
  obtain ⟨p, e, s, m, args, below, meth, c, nL, Q, k0, k1⟩ := C
  subst hq
  intro H locs ls hP hD hS hl
  subst hj
  exact va_astq (D := gD X) hC.1 hC.2.1 hC.2.2.2.2.2.1.1 hP hD hS i1 tt i2 ci (by rw [gn_at hi1, hf1]) hgt (by rw [gn_at hi2, hf2]) hc hz d (fun H1 locs1 hP1 hD1 hS1 => k H1 locs1 ls (by rw [← gn_up]; exact hP1) (by rw [← gn_up]; exact hD1) hS1 hl)
theorem n_iast (hC : cON X A C cc own) {i N j : Nat} {g : Nat → Int32} {z x : Int32} (hi : i < n) (hf : f i = .inl (gc X 0, N, .inl g)) (hz : vp_in z N) (hj : z.toNatClampNeg = j) (d : decode cc pc = .ok (.iastore, 1)) (hq : pc + 1 = q) (k : VN l X A R C a n (va_up f i (.inl (gc X 0, N, .inl (upd g j x)))) kc ks q lv st) : VN l X A R C a n f kc ks pc lv (.int x :: .int z :: .ref (a i) :: st) := by
  obtain ⟨p, e, s, m, args, below, meth, c, nL, Q, k0, k1⟩ := C
  subst hq
  intro H locs ls hP hD hS hl
  subst hj
  exact va_iast (D := gD X) hC.1 hC.2.1 hC.2.2.2.2.2.1.1 hP hD hS i 0 (by rw [gn_at hi, hf]) rfl hz d (fun H1 locs1 hP1 hD1 hS1 => k H1 locs1 ls (by rw [← gn_up]; exact hP1) (by rw [← gn_up]; exact hD1) hS1 hl)
theorem n_free {s : State} {H : Heap} {locs : List Loc} (hA : ∀ q, s.heap.size ≤ q → A q) (hD : va_D A (gn a n f)) (hS : va_S A s.heap H locs) : ∀ q, va_A (gn a n f) H.size q → A q := by
  intro q h
  rcases h with ⟨k, e, h⟩ | h
  · exact hD.2 k _ h
  · exact hA q (Nat.le_trans hS.1 h)
theorem n_blind {sz i : Nat} : FrameBlind (va_Pc [.ref (a i)] (fun U => zK X U ∧ U.heap.size = sz ∧ va_P (gD X) vwCl (gn a n f) U.heap ∧ va_D (fun _ => True) (gn a n f))) := fun a U g mk h => ⟨h.1, h.2.1.calling, h.2.2⟩
theorem n_callI (hC : cON X A C cc own) {idx maxL F L mc ms i n' : Nat} {y : MethodName} {bytes : ByteArray} {post : (Nat → Nat) → Hp → Prop} (h1 : Cond.methodLink own idx y ∈ tG) (h2 : Cond.instanceMethod y ∈ tG) (h3 : Cond.initialized y.cls ∈ tG) (h4 : Cond.code y bytes maxL none ∈ tG) (h5 : y.name = "<init>") (h6 : y.cls ≠ "java/lang/invoke/MethodHandle" ∧ y.cls ≠ "java/lang/invoke/VarHandle" ∧ (parseMethodDescriptor y.desc).map (fun d => d.parameters.length) = some 0) (hM : ∀ sz, Cn l X y bytes maxL F L a n f i sz mc ms n' post) (hR : F + 1 ≤ R.frames ∧ 8 + (maxL + 11) + L ≤ R.locals) (hR2 : kc + mc ≤ R.cells ∧ ks + ms ≤ R.slots) (hrs : (st.map fun v => v.category).sum ≤ 8) (d : decode cc pc = .ok (.invokespecial idx, 3)) (hq : pc + 3 = q) (k : ∀ a' f', post a' f' → VN l X A R C a' n' f' (kc + mc) (ks + ms) q lv st) : VN l X A R C a n f kc ks pc lv (.ref (a i) :: st) := by
  obtain ⟨p, e, s, m, args, below, meth, c, nL, Q, k0, k1⟩ := C
  subst hq
  intro H locs ls hP hD hS hl
  have hts : ∀ w ∈ (Cond.initialized y.cls :: tG), w.before args s = true := fun w hw => by
    rcases List.mem_cons.mp hw with rfl | h
    · exact hC.2.2.2.2.1 _ h3
    · exact hC.2.2.2.2.1 w h
  have hG : GoodIn (Cond.initialized y.cls :: tG) (Cond.code y bytes maxL none :: tG) := tg_in (fun w hw => by
    rcases List.mem_cons.mp hw with rfl | h
    · exact h4
    · exact h)
  have hFc := n_free hC.2.2.2.2.2.2 hD hS
  refine va_callv (va_runI (As := []) (rest := st) ⟨hC.1, hC.2.1, hC.2.2.1, hC.2.2.2.1, hts⟩ (hM H.size) (cwI 0 hts hG rfl rfl rfl (hC.2.2.2.2.1 _ h3) (hC.2.2.2.2.1 _ h1) (hC.2.2.2.2.1 _ h2) h5 h6 hR) ⟨n_blind, fun U hU hW => ⟨rfl, hC.2.2.2.2.2.1.warm hW, by rw [hU], by rw [hU]; exact hP, hD.weaken (fun _ _ _ _ => trivial)⟩⟩ rfl rfl hl.1 rfl (lv_room hrs) d hR2) hS (fun q _ h => hFc q h) hFc ?_
  exact fun u t H1 locs1 ht _ hp hB _ _ hS1 => k u.1 u.2 hp H1 locs1 ls (by rw [← ht]; exact hB.1) (hB.2.weaken (fun _ _ _ h => hFc _ h)) hS1 hl
theorem n_callN (hC : cON X A C cc own) {idx maxL F L mc ms i n' : Nat} {y : MethodName} {bytes : ByteArray} {host : String} {post : (Nat → Nat) → Hp → Prop} (h1 : ∀ U, zK X U → va_Nw (.methodLinkNest own idx y host) U) (h2 : Cond.instanceMethod y ∈ tG) (h3 : Cond.initialized y.cls ∈ tG) (h4 : Cond.code y bytes maxL none ∈ tG) (h5 : y.name = "<init>") (h6 : y.cls ≠ "java/lang/invoke/MethodHandle" ∧ y.cls ≠ "java/lang/invoke/VarHandle" ∧ (parseMethodDescriptor y.desc).map (fun d => d.parameters.length) = some 0) (hM : ∀ sz, Cn l X y bytes maxL F L a n f i sz mc ms n' post) (hR : F + 1 ≤ R.frames ∧ 8 + (maxL + 11) + L ≤ R.locals) (hR2 : kc + mc ≤ R.cells ∧ ks + ms ≤ R.slots) (hrs : (st.map fun v => v.category).sum ≤ 8) (d : decode cc pc = .ok (.invokespecial idx, 3)) (hq : pc + 3 = q) (k : ∀ a' f', post a' f' → VN l X A R C a' n' f' (kc + mc) (ks + ms) q lv st) : VN l X A R C a n f kc ks pc lv (.ref (a i) :: st) := by
  obtain ⟨p, e, s, m, args, below, meth, c, nL, Q, k0, k1⟩ := C
  subst hq
  intro H locs ls hP hD hS hl
  have hts : ∀ w ∈ (Cond.initialized y.cls :: tG), w.before args s = true := fun w hw => by
    rcases List.mem_cons.mp hw with rfl | h
    · exact hC.2.2.2.2.1 _ h3
    · exact hC.2.2.2.2.1 w h
  have hG : GoodIn (Cond.initialized y.cls :: tG) (Cond.code y bytes maxL none :: tG) := tg_in (fun w hw => by
    rcases List.mem_cons.mp hw with rfl | h
    · exact h4
    · exact h)
  have hFc := n_free hC.2.2.2.2.2.2 hD hS
  refine va_callv (va_runIN (As := []) (rest := st) ⟨hC.1, hC.2.1, hC.2.2.1, hC.2.2.2.1, hts⟩ (hM H.size) ⟨va_cnB 0 hts hG rfl rfl rfl (h1 _ hC.2.2.2.2.2.1) (hC.2.2.2.2.1 _ h3) h6 hR, h5, hC.2.2.2.2.1 _ h2⟩ ⟨n_blind, fun U hU hW => ⟨rfl, hC.2.2.2.2.2.1.warm hW, by rw [hU], by rw [hU]; exact hP, hD.weaken (fun _ _ _ _ => trivial)⟩⟩ rfl rfl hl.1 rfl (lv_room hrs) d hR2) hS (fun q _ h => hFc q h) hFc ?_
  exact fun u t H1 locs1 ht _ hp hB _ _ hS1 => k u.1 u.2 hp H1 locs1 ls (by rw [← ht]; exact hB.1) (hB.2.weaken (fun _ _ _ h => hFc _ h)) hS1 hl
end VNK
theorem ct_n {l : Launch} {X : Gx} {y : MethodName} {cc : ByteArray} {maxL F L : Nat} {a : Nat → Nat} {n : Nat} {f : Hp} {i sz mc ms n' : Nat} {post : (Nat → Nat) → Hp → Prop} {own : String} {lv : Lv} (hy : plainName y.cls = true) (hnm : y.name = "<init>") (ho : y.cls = own) (hsz : (lg_sl [Value.ref (a i)]).length ≤ maxL) (hsz2 : (lvE maxL [Value.ref (a i)]).length ≤ maxL) (hlv : lvE maxL [Value.ref (a i)] = lv)
    (body : ∀ (A : Nat → Prop) (C : Cx), cON X A C cc own → cIn C → (∀ (a' : Nat → Nat) (f' : Hp) (pc : Nat) (lv : Lv), post a' f' → decode cc pc = .ok (.return_, 1) → VN l X A (rmC F L mc ms) C a' n' f' mc ms pc lv []) → VN l X A (rmC F L mc ms) C a n f 0 0 0 lv []) : Cn l X y cc maxL F L a n f i sz mc ms n' post := by
  refine Met.ofW (cc := cc) (maxL := maxL) (ret := none) hy rfl ?_
  intro p e s m args below meth c s₁ B hml hv
  obtain ⟨rfl, hZ, hsize, hP, hD0⟩ := hv
  have hx := B.exec
  have hb := B.bytes
  have hr := B.returns
  have hts := atoms_spec (ws := Cond.code y cc maxL none :: tG) B.pre
  have hown : s.vm.findClass own = some m.cls := ho ▸ findClass_of_methodNamed B.named
  have hin : meth.name = "<init>" := hnm ▸ (name_of_methodNamed B.named B.method).1
  subst hsize
  have hD := hD0.self (sz := s.heap.size)
  have hl := hasL_entry [Value.ref (a i)] hsz hsz2
  rw [lg_entry_eq]
  refine body (va_A (gn a n f) s.heap.size) (p, e, s, m, [Value.ref (a i)].toArray, below, meth, c, maxL, _, 0, 0) ⟨hx, hb, hml, hown, fun w hw => hts w (List.mem_cons_of_mem _ hw), hZ, fun q h => Or.inr h⟩ hin ?_ _ _ _ hP hD va_S.rf (hlv ▸ hl)
  exact fun a' f' pc lv hp hd H locs ls hP hD hS hl => W.vret hx hb hr (fun t ht hW => ⟨⟨(a', f'), rfl, hp, by rw [ht]; exact hP, hD⟩, hS.F ht⟩) hS.2.2 hd B.notSynchronized
theorem pf_1_2 : PTf RX1 1 2 (.array (.object "GrudgeGlasses$One")) := ⟨_, _, _, tyX1, rfl, tyX1_ok, nmX1, rfl, rfl, by decide +kernel⟩
theorem pf_1_3 : PTf RX1 1 3 (.array .int) := ⟨_, _, _, tyX1, rfl, tyX1_ok, nmX1, rfl, rfl, by decide +kernel⟩
theorem pf_2_2 : PTf RX2 2 2 (.array .long) := ⟨_, _, _, tyX2, rfl, tyX2_ok, nmX2, rfl, rfl, by decide +kernel⟩
theorem pf_3_0 : PTf RX3 3 0 (.array .int) := ⟨_, _, _, tyX3, rfl, tyX3_ok, nmX3, rfl, rfl, by decide +kernel⟩
theorem pf_4_0 : PTf RX5 4 0 (.object "GrudgeGlasses$Quay") := ⟨_, _, _, tyX5, rfl, tyX5_ok, nmX5, rfl, rfl, by decide +kernel⟩
theorem pf_4_1 : PTf RX5 4 1 (.object "GrudgeGlasses$Quay") := ⟨_, _, _, tyX5, rfl, tyX5_ok, nmX5, rfl, rfl, by decide +kernel⟩
theorem pf_4_2 : PTf RX5 4 2 (.object "GrudgeGlasses$Quay") := ⟨_, _, _, tyX5, rfl, tyX5_ok, nmX5, rfl, rfl, by decide +kernel⟩
theorem pf_4_3 : PTf RX5 4 3 (.object "GrudgeGlasses$One") := ⟨_, _, _, tyX5, rfl, tyX5_ok, nmX5, rfl, rfl, by decide +kernel⟩
theorem pf_4_4 : PTf RX5 4 4 (.object "GrudgeGlasses$Tape") := ⟨_, _, _, tyX5, rfl, tyX5_ok, nmX5, rfl, rfl, by decide +kernel⟩
theorem pf_4_5 : PTf RX5 4 5 (.array (.object "GrudgeGlasses$Sheet")) := ⟨_, _, _, tyX5, rfl, tyX5_ok, nmX5, rfl, rfl, by decide +kernel⟩
theorem pf_4_6 : PTf RX5 4 6 (.array .int) := ⟨_, _, _, tyX5, rfl, tyX5_ok, nmX5, rfl, rfl, by decide +kernel⟩
theorem pf_5_0 : PTf RX6 5 0 (.array .int) := ⟨_, _, _, tyX6, rfl, tyX6_ok, nmX6, rfl, rfl, by decide +kernel⟩
theorem pf_5_1 : PTf RX6 5 1 (.array .int) := ⟨_, _, _, tyX6, rfl, tyX6_ok, nmX6, rfl, rfl, by decide +kernel⟩
theorem pf_5_2 : PTf RX6 5 2 (.array .int) := ⟨_, _, _, tyX6, rfl, tyX6_ok, nmX6, rfl, rfl, by decide +kernel⟩
theorem pf_5_4 : PTf RX6 5 4 (.array .int) := ⟨_, _, _, tyX6, rfl, tyX6_ok, nmX6, rfl, rfl, by decide +kernel⟩
theorem pf_5_5 : PTf RX6 5 5 (.array .int) := ⟨_, _, _, tyX6, rfl, tyX6_ok, nmX6, rfl, rfl, by decide +kernel⟩
theorem pf_5_12 : PTf RX6 5 12 (.array .int) := ⟨_, _, _, tyX6, rfl, tyX6_ok, nmX6, rfl, rfl, by decide +kernel⟩
theorem pf_5_13 : PTf RX6 5 13 (.array .int) := ⟨_, _, _, tyX6, rfl, tyX6_ok, nmX6, rfl, rfl, by decide +kernel⟩
theorem pf_5_14 : PTf RX6 5 14 (.array .long) := ⟨_, _, _, tyX6, rfl, tyX6_ok, nmX6, rfl, rfl, by decide +kernel⟩