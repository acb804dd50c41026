/-! THE CLAIM OUT OF ONE WALK OF THE LAW'S BODY. Your part is whole_start (and what it stands on); all else here is the same for every law, but numbers. -/
def R_law : String := "GrudgeGlassesLaw"
def lw_P (b : Addr) (xs : List Int32) (args : Array Value) (s : State) : Prop := args = #[.ref b] ∧ s.IntsAt b xs ∧ xs.length ≤ 3072 ∧ (Jvm.Cond.and given_1 narrow_1).before args s = true
def lw_Q (_ : Array Value) (s : State) (o : Outcome) (t : State) : Prop := o = .returned (some (.int 1)) ∧ Framed s o t [] 600000 7302250
def lw_Z (below : List Frame) (a : Array Value) (s : State) : State → Prop := fun t => ∃ o, t.status = .running ∧ Ended t below o ∧ lw_Q a s o t
/-- the law's own end, with 1 on the stack, nothing written that was there before, its room as the claim has it -/
theorem lw_ret {p : Program} {l : Launch} {e : Env} {s : State} {m : MethodId} {below : List Frame} {meth : Method} {c : Code} {b : Nat} (hx : p.tables.exec = Jvm.exec) (hb : c.code = code) (hr : meth.sig.returnType = ret) (hlocks : meth.locks = false) {pc : Nat} {H : Heap} {ls : Array Slot} (hdg : decode code pc = .ok (.ireturn, 1)) : W p l e room_1 s m #[Value.ref b] below meth c H [] 600000 7302250 (lw_Z below #[Value.ref b] s) (F0 m pc ls [.int 1]) := by
  intro T hT X
  obtain ⟨fs, hret, hrun, hended, hW, hframe⟩ := X.leave (v := some (.int 1)) (hlocks := hlocks) (fun h => by rw [hr] at h; cases h)
  have hmeth' : T.vm.method? m = some meth := X.method'
  refine ⟨T.setFrames fs, ?_, .returned (some (.int 1)), hrun, hended, rfl, ⟨_, rfl⟩, hW, hframe⟩
  jvm_step X.here [X.here.top, hx, hb, hdg, hmeth', hr, ret, narrow_b1]
  (try refine ⟨rfl, ?_⟩); (try refine ⟨rfl, ?_⟩)
  first | (intro acts; rw [hret _ acts rfl rfl rfl]) | rw [hret _ _ rfl rfl rfl]
  exact Steps.refl _
/-- what holds at the law's entry: the machine, the code, the tables' words (any of lw_tbl by 'hts w (by decide +kernel)'), the script of L ints xs at the cell b, what the Statement gives of the start (any of its parts by flat_of_before) -/
def lw_At (p : Program) (s : State) (m : MethodId) (meth : Method) (c : Code) (b L : Nat) (xs : Nat → Int32) : Prop :=
  p.tables.exec = Jvm.exec ∧ c.code = code ∧ meth.sig.returnType = ret ∧ c.maxLocals = 4 ∧ s.vm.findClass R_law = some m.cls ∧ (∀ w ∈ lw_tbl, w.before #[Value.ref b] s = true) ∧ va_X b L xs s s.heap ∧ b < s.heap.size ∧ meth.locks = false ∧ (Jvm.Cond.and given_1 narrow_1).before #[Value.ref b] s = true
def gvL : List Cond := flatC (Jvm.Cond.and given_1 narrow_1)
def tKA : Term := .static RX5 "KIND_ABOVE" "[I"
def tNM : Term := .static RX6 "NAMES" "[I"
def tmS (i : Nat) : Term := .string RX4 (([111, 101, 103, 105, 107, 109, 67, 81, 34, 43, 49] : List Nat).getD i 0)
def sbL : List Nat := [207, 136, 150, 163, 177, 191, 225, 244, 110, 119, 126]
def neL : List (List Nat) := [[0, 220, 221, 222, 223, 224, 243, 258, 217, 218, 219], [220, 0, 162, 175, 188, 203, 238, 253, 147, 148, 149], [221, 162, 0, 176, 189, 204, 239, 254, 159, 160, 161], [222, 175, 176, 0, 190, 205, 240, 255, 172, 173, 174], [223, 188, 189, 190, 0, 206, 241, 256, 185, 186, 187], [224, 203, 204, 205, 206, 0, 242, 257, 200, 201, 202], [243, 238, 239, 240, 241, 242, 0, 259, 235, 236, 237], [258, 253, 254, 255, 256, 257, 259, 0, 250, 251, 252], [217, 147, 159, 172, 185, 200, 235, 250, 0, 125, 134], [218, 148, 160, 173, 186, 201, 236, 251, 125, 0, 135], [219, 149, 161, 174, 187, 202, 237, 252, 134, 135, 0]]
theorem gv_ka : gvL[5]? = some (Cond.arrayOf tKA .int) ∧ gvL[6]? = some (Cond.eq (.length tKA) (.int 6)) ∧ ∀ j : Fin 6, gvL[7 + j.val]? = some (Cond.eq (.elem tKA (.int (Int32.ofNat j.val))) (.int (([-1, 0, 0, 0, 1, 2] : List Int32).getD j.val 0))) := by decide +kernel
theorem gv_nm : gvL[19]? = some (Cond.arrayOf tNM .int) ∧ gvL[20]? = some (Cond.eq (.length tNM) (.int 77)) ∧ ∀ j : Fin 77, gvL[21 + j.val]? = some (Cond.eq (.elem tNM (.int (Int32.ofNat j.val))) (.int (nmL.getD j.val 0))) := by decide +kernel
theorem gv_cs : gvL[13]? = some (Cond.eq (.static RJ0 "COMPACT_STRINGS" "Z") (.int 1)) := by decide +kernel
theorem gv_si : gvL[14]? = some (Cond.isRef (.static RJ3 "SIOOBE_FORMATTER" "Ljava/util/function/BiFunction;")) := by decide +kernel
theorem gv_s1 : ∀ i : Fin 11, gvL[sbL.getD i.val 0]? = some (Cond.exactly (tmS i.val) "java/lang/String") ∧ gvL[sbL.getD i.val 0 + 1]? = some (Cond.eq (.field (tmS i.val) "java/lang/String" "coder" "B") (.int 0)) ∧ gvL[sbL.getD i.val 0 + 2]? = some (Cond.arrayOf (.field (tmS i.val) "java/lang/String" "value" "[B") .byte) ∧ gvL[sbL.getD i.val 0 + 3]? = some (Cond.eq (.length (.field (tmS i.val) "java/lang/String" "value" "[B")) (.int (Int32.ofNat (swN.getD i.val 0)))) := by decide +kernel
theorem gv_s2 : ∀ i : Fin 11, ∀ j : Fin 7, j.val < swN.getD i.val 0 → gvL[sbL.getD i.val 0 + 4 + j.val]? = some (Cond.eq (.elem (.field (tmS i.val) "java/lang/String" "value" "[B") (.int (Int32.ofNat j.val))) (.int ((swL.getD i.val []).getD j.val 0))) := by decide +kernel
theorem gv_s3 : ∀ i j : Fin 11, i ≠ j → gvL[(neL.getD i.val []).getD j.val 0]? = some (Cond.not (Cond.eq (tmS i.val) (tmS j.val))) ∨ gvL[(neL.getD i.val []).getD j.val 0]? = some (Cond.not (Cond.eq (tmS j.val) (tmS i.val))) := by decide +kernel
theorem gv_u {args : Array Value} {s : State} (h : (Jvm.Cond.and given_1 narrow_1).before args s = true) {i : Nat} {w : Cond} (hw : gvL[i]? = some w) : w.before args s = true := flat_of_before _ h w (List.mem_of_getElem? hw)
theorem start_Z {s : State} {args : Array Value} (hts : ∀ w ∈ lw_tbl, w.before args s = true) (hgv : (Jvm.Cond.and given_1 narrow_1).before args s = true) {A : Nat → Prop} (hA : ∀ a : Nat, a < s.heap.size → ¬ A a) : ∃ (gs_ gK_ gV_ : Nat → Nat),
    (va_Z RX5 "KIND_ABOVE" "[I" (.ref (gs_ 0)) A s s.heap ∧ va_T .int (gs_ 0) 6 kaF A s s.heap) ∧ (va_Z RX6 "NAMES" "[I" (.ref (gs_ 1)) A s s.heap ∧ va_T .int (gs_ 1) 77 nmF A s s.heap) ∧
    vk_S 11 swN swL gK_ gV_ A s s.heap ∧ (∀ (i : Nat) (q : Nat × String), swI[i]? = some q → vk_R RX4 q.1 q.2 (gK_ i) s) ∧ va_Z RJ0 "COMPACT_STRINGS" "Z" (.int 1) A s s.heap ∧ va_Zq RJ3 "SIOOBE_FORMATTER" "Ljava/util/function/BiFunction;" A s s.heap := by
  have hin : ∀ w ∈ tG, w.before args s = true := fun w hw => hts w (List.mem_filter.mp hw).1
  obtain ⟨t0, e0, T0⟩ := va_Tof (tm := tKA) (ty := .int) (N := 6) (f := kaF) (by decide) (gv_u hgv gv_ka.1) (va_eqt (gv_u hgv gv_ka.2.1)) (fun j hj => va_eqt (gv_u hgv (gv_ka.2.2 ⟨j, hj⟩))) hA
  obtain ⟨t1, e1, T1⟩ := va_Tof (tm := tNM) (ty := .int) (N := 77) (f := nmF) (by decide) (gv_u hgv gv_nm.1) (va_eqt (gv_u hgv gv_nm.2.1)) (fun j hj => va_eqt (gv_u hgv (gv_nm.2.2 ⟨j, hj⟩))) hA
  have hl7 : ∀ i : Fin 11, swN.getD i.val 0 ≤ 7 := by decide
  obtain ⟨adK, adV, hS, hE⟩ := vk_Sof (tm := tmS) (N := 11) (len := swN) (byt := swL) (fun i hi => by have h := hl7 ⟨i, hi⟩; dsimp only at h; omega) (fun i hi => gv_u hgv (gv_s1 ⟨i, hi⟩).1) (fun i hi => gv_u hgv (gv_s1 ⟨i, hi⟩).2.1) (fun i hi => gv_u hgv (gv_s1 ⟨i, hi⟩).2.2.1) (fun i hi => gv_u hgv (gv_s1 ⟨i, hi⟩).2.2.2)
    (fun i hi j hj => gv_u hgv (gv_s2 ⟨i, hi⟩ ⟨j, by have h := hl7 ⟨i, hi⟩; dsimp only at h; omega⟩ hj)) (fun i j hi hj hne => (gv_s3 ⟨i, hi⟩ ⟨j, hj⟩ (fun z => hne (congrArg Fin.val z))).imp (fun h => gv_u hgv h) (fun h => gv_u hgv h)) hA
  refine ⟨fun k => if k = 0 then t0 else t1, adK, adV, ⟨va_Zof (hts _ wz_X5_KIND_ABOVE) (hin _ wi_X5) e0 hA, T0⟩, ⟨va_Zof (hts _ wz_X6_NAMES) (hin _ wi_X6) e1 hA, T1⟩, hS, ?_, va_Zof (hts _ wz_J0_COMPACT_STRINGS) (hin _ wi_J0) (va_eqi (gv_u hgv gv_cs)) hA, va_Zqof (hts _ wz_J3_SIOOBE_FORMATTER) (hin _ wi_J3) (gv_u hgv gv_si) hA⟩
  intro i q hq
  match i, hq with
  | 0, hq => cases hq; exact vk_R.of (hts _ wr_X4_111) (hE 0 (by decide))
  | 1, hq => cases hq; exact vk_R.of (hts _ wr_X4_101) (hE 1 (by decide))
  | 2, hq => cases hq; exact vk_R.of (hts _ wr_X4_103) (hE 2 (by decide))
  | 3, hq => cases hq; exact vk_R.of (hts _ wr_X4_105) (hE 3 (by decide))
  | 4, hq => cases hq; exact vk_R.of (hts _ wr_X4_107) (hE 4 (by decide))
  | 5, hq => cases hq; exact vk_R.of (hts _ wr_X4_109) (hE 5 (by decide))
  | 6, hq => cases hq; exact vk_R.of (hts _ wr_X4_67) (hE 6 (by decide))
  | 7, hq => cases hq; exact vk_R.of (hts _ wr_X4_81) (hE 7 (by decide))
  | 8, hq => cases hq; exact vk_R.of (hts _ wr_X4_34) (hE 8 (by decide))
  | 9, hq => cases hq; exact vk_R.of (hts _ wr_X4_43) (hE 9 (by decide))
  | 10, hq => cases hq; exact vk_R.of (hts _ wr_X4_49) (hE 10 (by decide))
  | i + 11, hq => simp [swI] at hq
theorem start_K {s : State} {args : Array Value} (hts : ∀ w ∈ lw_tbl, w.before args s = true) : ∃ (D : va_G) (gc_ : Nat → ClassId), va_K D vwCl [(gc_ 0, .int), (gc_ 1, .long), (gc_ 2, .object RX0), (gc_ 3, .object RX2)] s := by
  have hin : ∀ w ∈ tG, w.before args s = true := fun w hw => hts w (List.mem_filter.mp hw).1
  obtain ⟨c0, i0, hK0⟩ := u_known (C := RX0) (T := TX0) (N := 8) (n := 8) hin inX0 (hin _ wn_X0)
  obtain ⟨c1, i1, hK1⟩ := u_known (C := RX1) (T := TX1) (N := 4) (n := 4) hin inX1 (hin _ wn_X1)
  obtain ⟨c2, i2, hK2⟩ := u_known (C := RX2) (T := TX2) (N := 3) (n := 3) hin inX2 (hin _ wn_X2)
  obtain ⟨c3, i3, hK3⟩ := u_known (C := RX3) (T := TX3) (N := 5) (n := 5) hin inX3 (hin _ wn_X3)
  obtain ⟨c4, i4, hK4⟩ := u_known (C := RX5) (T := TX5) (N := 8) (n := 8) hin inX5 (hin _ wn_X5)
  obtain ⟨c5, i5, hK5⟩ := u_known (C := RX6) (T := TX6) (N := 15) (n := 15) hin inX6 (hin _ wn_X6)
  obtain ⟨aI, kI, pI, hI1, hI2, hI3⟩ := Cond.arrayClass_spec (hin _ wa_int)
  obtain ⟨aJ, kJ, pJ, hJ1, hJ2, hJ3⟩ := Cond.arrayClass_spec (hin _ wa_long)
  obtain ⟨p0, aO, kO, hO1, -, hO3, hO4, hO5⟩ := Cond.arrayOver_spec (hts _ wo_One)
  obtain ⟨p2, aS, kS, hS1, -, hS3, hS4, hS5⟩ := Cond.arrayOver_spec (hts _ wo_Sheet)
  refine ⟨(fun k => if k = 0 then c0 else if k = 1 then c1 else if k = 2 then c2 else if k = 3 then c3 else if k = 4 then c4 else c5, fun k => if k = 0 then i0 else if k = 1 then i1 else if k = 2 then i2 else if k = 3 then i3 else if k = 4 then i4 else i5), fun k => if k = 0 then aI else if k = 1 then aJ else if k = 2 then aO else aS, ?_, ?_⟩
  · intro k q hq
    match k, hq with
    | 0, hq => cases hq; exact hK0
    | 1, hq => cases hq; exact hK1
    | 2, hq => cases hq; exact hK2
    | 3, hq => cases hq; exact hK3
    | 4, hq => cases hq; exact hK4
    | 5, hq => cases hq; exact hK5
    | k + 6, hq => simp [vwCl] at hq
  · intro k q hq
    match k, hq with
    | 0, hq => cases hq; exact ⟨fun n z => ⟨fun k h => (by cases h), kI, hI2, pI, hI3⟩, hI1⟩
    | 1, hq => cases hq; exact ⟨fun n z => ⟨fun k h => (by cases h), kJ, hJ2, pJ, hJ3⟩, hJ1⟩
    | 2, hq => cases hq; exact ⟨fun n z => ⟨fun k h => (by cases h), kO, hO3, p0, hO4⟩, kO, p0, hO3, hO4, hO1, hO5⟩
    | 3, hq => cases hq; exact ⟨fun n z => ⟨fun k h => (by cases h), kS, hS3, p2, hS4⟩, kS, p2, hS3, hS4, hS1, hS5⟩
    | k + 4, hq => simp at hq
def sg (k : Nat) : Nat := if k < 38 then k else if k = 46 then 38 else if k < 46 then k + 1 else k
theorem sg_lt : ∀ k : Fin 56, sg k.val < 56 := by decide
theorem sg_in : ∀ i j : Fin 56, sg i.val = sg j.val → i = j := by decide +kernel
def aF (x0 : Nat) (b1 : Nat → Nat) (x47 : Nat) (b48 : Nat → Nat) : Nat → Nat := xA (va_up (xA (va_up (fun _ => 0) 0 x0) 1 b1) 47 x47) 48 b48
def fF (X : Gx) (b1 b48 : Nat → Nat) : Hp := xF (va_up (xF (va_up (fun _ => one0) 0 (gC0 b1)) 1 (gT X b1)) 47 (mC0 b48)) 48 (mT X)
def cE3 (e e' : va_E) : Prop := e = e' ∨ ∃ (cA : ClassId) (n : Nat) (g h : Nat → Option Nat), e = .inl (cA, n, .inr (.inr (.inr (.inr g)))) ∧ e' = .inl (cA, n, .inr (.inr (.inr (.inr h)))) ∧ ∀ j, j < n → g j = h j
theorem cE3_at {D : va_G} {q : Nat} {e e' : va_E} {H : Heap} (h : cE3 e e') (hp : va_at D vwCl (q, e) H) : va_at D vwCl (q, e') H := by
  rcases h with rfl | ⟨cA, n, g, h, rfl, rfl, hj⟩
  · exact hp
  · have e4 : vp_cell cA (n, .inr (.inr (.inr (.inr g)))) = vp_cell cA (n, .inr (.inr (.inr (.inr h)))) := by
      rw [vp_cell_q, vp_cell_q]
      exact arrV_congr (fun j hj2 => by rw [hj j hj2])
    show H[q]? = some (vp_cell cA (n, .inr (.inr (.inr (.inr h)))))
    rw [← e4]
    exact hp
abbrev hp0 (X : Gx) : Hp := ch X ((fun _ => 0), (fun _ => 0), (fun _ _ => 0), (fun _ => 0)) (fun _ _ => 0) (fun _ _ => 0) (fun _ _ _ => 0) (fun _ _ => 0) (fun _ => 0) (fun _ => 0) (fun _ _ => 0) (fun _ _ => 0) (fun _ => 0) 0
set_option maxHeartbeats 4000000 in
theorem cells0 {x0 : Nat} {b1 : Nat → Nat} {x47 : Nat} {b48 : Nat → Nat} {X0 X : Gx} (hX : X = (fun k => aF x0 b1 x47 b48 (sg k), X0.2)) : ∀ k, k < 56 → ga X k = aF x0 b1 x47 b48 (sg k) ∧ cE3 (fF X0 b1 b48 (sg k)) (hp0 X k) := by
  subst hX
  intro k hk
  match k, hk with
  | 0, _ => exact ⟨rfl, Or.inl rfl⟩
  | 1, _ => exact ⟨rfl, Or.inl rfl⟩
  | 2, _ => exact ⟨rfl, Or.inr ⟨gc X0 2, 8, _, _, rfl, rfl, fun j hj => match j, hj with | 0, _ => rfl | 1, _ => rfl | 2, _ => rfl | 3, _ => rfl | 4, _ => rfl | 5, _ => rfl | 6, _ => rfl | 7, _ => rfl | j + 8, h => absurd h (by omega)⟩⟩
  | 3, _ => exact ⟨rfl, Or.inl rfl⟩
  | 4, _ => exact ⟨rfl, Or.inl rfl⟩
  | 5, _ => exact ⟨rfl, Or.inl rfl⟩
  | 6, _ => exact ⟨rfl, Or.inl rfl⟩
  | 7, _ => exact ⟨rfl, Or.inl rfl⟩
  | 8, _ => exact ⟨rfl, Or.inl rfl⟩
  | 9, _ => exact ⟨rfl, Or.inl rfl⟩
  | 10, _ => exact ⟨rfl, Or.inl rfl⟩
  | 11, _ => exact ⟨rfl, Or.inl rfl⟩
  | 12, _ => exact ⟨rfl, Or.inl rfl⟩
  | 13, _ => exact ⟨rfl, Or.inr ⟨gc X0 2, 8, _, _, rfl, rfl, fun j hj => match j, hj with | 0, _ => rfl | 1, _ => rfl | 2, _ => rfl | 3, _ => rfl | 4, _ => rfl | 5, _ => rfl | 6, _ => rfl | 7, _ => rfl | j + 8, h => absurd h (by omega)⟩⟩
  | 14, _ => exact ⟨rfl, Or.inl rfl⟩
  | 15, _ => exact ⟨rfl, Or.inl rfl⟩
  | 16, _ => exact ⟨rfl, Or.inl rfl⟩
  | 17, _ => exact ⟨rfl, Or.inl rfl⟩
  | 18, _ => exact ⟨rfl, Or.inl rfl⟩
  | 19, _ => exact ⟨rfl, Or.inl rfl⟩
  | 20, _ => exact ⟨rfl, Or.inl rfl⟩
  | 21, _ => exact ⟨rfl, Or.inl rfl⟩
  | 22, _ => exact ⟨rfl, Or.inl rfl⟩
  | 23, _ => exact ⟨rfl, Or.inl rfl⟩
  | 24, _ => exact ⟨rfl, Or.inr ⟨gc X0 2, 8, _, _, rfl, rfl, fun j hj => match j, hj with | 0, _ => rfl | 1, _ => rfl | 2, _ => rfl | 3, _ => rfl | 4, _ => rfl | 5, _ => rfl | 6, _ => rfl | 7, _ => rfl | j + 8, h => absurd h (by omega)⟩⟩
  | 25, _ => exact ⟨rfl, Or.inl rfl⟩
  | 26, _ => exact ⟨rfl, Or.inl rfl⟩
  | 27, _ => exact ⟨rfl, Or.inl rfl⟩
  | 28, _ => exact ⟨rfl, Or.inl rfl⟩
  | 29, _ => exact ⟨rfl, Or.inl rfl⟩
  | 30, _ => exact ⟨rfl, Or.inl rfl⟩
  | 31, _ => exact ⟨rfl, Or.inl rfl⟩
  | 32, _ => exact ⟨rfl, Or.inl rfl⟩
  | 33, _ => exact ⟨rfl, Or.inl rfl⟩
  | 34, _ => exact ⟨rfl, Or.inl rfl⟩
  | 35, _ => exact ⟨rfl, Or.inl rfl⟩
  | 36, _ => exact ⟨rfl, Or.inl rfl⟩
  | 37, _ => exact ⟨rfl, Or.inr ⟨gc X0 3, 4, _, _, rfl, rfl, fun j hj => match j, hj with | 0, _ => rfl | 1, _ => rfl | 2, _ => rfl | 3, _ => rfl | j + 4, h => absurd h (by omega)⟩⟩
  | 38, _ => exact ⟨rfl, Or.inl rfl⟩
  | 39, _ => exact ⟨rfl, Or.inl rfl⟩
  | 40, _ => exact ⟨rfl, Or.inl rfl⟩
  | 41, _ => exact ⟨rfl, Or.inl rfl⟩
  | 42, _ => exact ⟨rfl, Or.inl rfl⟩
  | 43, _ => exact ⟨rfl, Or.inl rfl⟩
  | 44, _ => exact ⟨rfl, Or.inl rfl⟩
  | 45, _ => exact ⟨rfl, Or.inl rfl⟩
  | 46, _ => exact ⟨rfl, Or.inl rfl⟩
  | 47, _ => exact ⟨rfl, Or.inl rfl⟩
  | 48, _ => exact ⟨rfl, Or.inl rfl⟩
  | 49, _ => exact ⟨rfl, Or.inl rfl⟩
  | 50, _ => exact ⟨rfl, Or.inl rfl⟩
  | 51, _ => exact ⟨rfl, Or.inl rfl⟩
  | 52, _ => exact ⟨rfl, Or.inl rfl⟩
  | 53, _ => exact ⟨rfl, Or.inl rfl⟩
  | 54, _ => exact ⟨rfl, Or.inl rfl⟩
  | 55, _ => exact ⟨rfl, Or.inl rfl⟩
  | k + 56, h => omega
set_option maxHeartbeats 4000000 in
set_option maxRecDepth 100000 in
/-- the law's walk up to its loop -/
theorem law_make {l : Launch} {X : Gx} {A : Nat → Prop} {C : Cx} {b : Nat} (hC : cON X A C cL_law RL) (k : ∀ (x0 : Nat) (b1 : Nat → Nat) (x47 : Nat) (b48 : Nat → Nat), VN l X A room_1 C (aF x0 b1 x47 b48) 56 (fF X b1 b48) 56 1060 18 [some (.ref b), some (.ref x0), some (.ref x47), some (.int 0)] []) : VN l X A room_1 C (fun _ => 0) 0 (fun _ => one0) 0 0 0 [some (.ref b), none, none, none] [] := by
  refine n_new hC (ci := 4) (fs := [.null, .null, .null, .null, .null, .null, .null, .int 0]) tyX5 tyX5_ok inX5 wc_L_7 wn_X5 wi_X5 rfl (fun j hj => by rcases (show j = 0 ∨ j = 1 ∨ j = 2 ∨ j = 3 ∨ j = 4 ∨ j = 5 ∨ j = 6 ∨ j = 7 by omega) with rfl | rfl | rfl | rfl | rfl | rfl | rfl | rfl <;> rfl) ⟨Nat.le_of_ble_eq_true rfl, Nat.le_of_ble_eq_true rfl⟩ dL_law_0 (q := 3) rfl (fun x0 => ?_)
  refine n_dup hC rfl dL_law_3 (q := 4) rfl ?_
  refine n_callI hC (i := 0) wm_L_9 wI_X5_init wi_X5 wd_X5_init rfl (by decide +kernel) (fun sz => c_X5_init_1 rfl sz) ⟨Nat.le_of_ble_eq_true rfl, Nat.le_of_ble_eq_true rfl⟩ ⟨Nat.le_of_ble_eq_true rfl, Nat.le_of_ble_eq_true rfl⟩ (Nat.le_of_ble_eq_true rfl) dL_law_4 (q := 7) rfl ?_
  rintro _ _ ⟨b1, rfl, rfl⟩
  refine n_astore_1 hC rfl dL_law_7 (q := 8) rfl ?_
  refine n_new hC (ci := 5) (fs := [.null, .null, .null, .int 0, .null, .null, .int 0, .int 0, .int 0, .int 0, .int 0, .int 0, .null, .null, .null]) tyX6 tyX6_ok inX6 wc_L_10 wn_X6 wi_X6 rfl (fun j hj => by rcases (show j = 0 ∨ j = 1 ∨ j = 2 ∨ j = 3 ∨ j = 4 ∨ j = 5 ∨ j = 6 ∨ j = 7 ∨ j = 8 ∨ j = 9 ∨ j = 10 ∨ j = 11 ∨ j = 12 ∨ j = 13 ∨ j = 14 by omega) with rfl | rfl | rfl | rfl | rfl | rfl | rfl | rfl | rfl | rfl | rfl | rfl | rfl | rfl | rfl <;> rfl) ⟨Nat.le_of_ble_eq_true rfl, Nat.le_of_ble_eq_true rfl⟩ dL_law_8 (q := 11) rfl (fun x47 => ?_)
  refine n_dup hC rfl dL_law_11 (q := 12) rfl ?_
  refine n_callI hC (i := 47) wm_L_12 wI_X6_init wi_X6 wd_X6_init rfl (by decide +kernel) (fun sz => c_X6_init_48 rfl sz) ⟨Nat.le_of_ble_eq_true rfl, Nat.le_of_ble_eq_true rfl⟩ ⟨Nat.le_of_ble_eq_true rfl, Nat.le_of_ble_eq_true rfl⟩ (Nat.le_of_ble_eq_true rfl) dL_law_12 (q := 15) rfl ?_
  rintro _ _ ⟨b48, rfl, rfl⟩
  refine n_astore_2 hC rfl dL_law_15 (q := 16) rfl ?_
  refine n_iconst hC (v := 0) rfl dL_law_16 (q := 17) rfl ?_
  refine n_istore_3 hC rfl dL_law_17 (q := 18) rfl ?_
  refine n_eq (a' := aF x0 b1 x47 b48) (f' := fF X b1 b48) (gn_ext (fun k hk => match k, hk with | 0, _ => ⟨rfl, rfl⟩ | 1, _ => ⟨rfl, rfl⟩ | 2, _ => ⟨rfl, rfl⟩ | 3, _ => ⟨rfl, rfl⟩ | 4, _ => ⟨rfl, rfl⟩ | 5, _ => ⟨rfl, rfl⟩ | 6, _ => ⟨rfl, rfl⟩ | 7, _ => ⟨rfl, rfl⟩ | 8, _ => ⟨rfl, rfl⟩ | 9, _ => ⟨rfl, rfl⟩ | 10, _ => ⟨rfl, rfl⟩ | 11, _ => ⟨rfl, rfl⟩ | 12, _ => ⟨rfl, rfl⟩ | 13, _ => ⟨rfl, rfl⟩ | 14, _ => ⟨rfl, rfl⟩ | 15, _ => ⟨rfl, rfl⟩ | 16, _ => ⟨rfl, rfl⟩ | 17, _ => ⟨rfl, rfl⟩ | 18, _ => ⟨rfl, rfl⟩ | 19, _ => ⟨rfl, rfl⟩ | 20, _ => ⟨rfl, rfl⟩ | 21, _ => ⟨rfl, rfl⟩ | 22, _ => ⟨rfl, rfl⟩ | 23, _ => ⟨rfl, rfl⟩ | 24, _ => ⟨rfl, rfl⟩ | 25, _ => ⟨rfl, rfl⟩ | 26, _ => ⟨rfl, rfl⟩ | 27, _ => ⟨rfl, rfl⟩ | 28, _ => ⟨rfl, rfl⟩ | 29, _ => ⟨rfl, rfl⟩ | 30, _ => ⟨rfl, rfl⟩ | 31, _ => ⟨rfl, rfl⟩ | 32, _ => ⟨rfl, rfl⟩ | 33, _ => ⟨rfl, rfl⟩ | 34, _ => ⟨rfl, rfl⟩ | 35, _ => ⟨rfl, rfl⟩ | 36, _ => ⟨rfl, rfl⟩ | 37, _ => ⟨rfl, rfl⟩ | 38, _ => ⟨rfl, rfl⟩ | 39, _ => ⟨rfl, rfl⟩ | 40, _ => ⟨rfl, rfl⟩ | 41, _ => ⟨rfl, rfl⟩ | 42, _ => ⟨rfl, rfl⟩ | 43, _ => ⟨rfl, rfl⟩ | 44, _ => ⟨rfl, rfl⟩ | 45, _ => ⟨rfl, rfl⟩ | 46, _ => ⟨rfl, rfl⟩ | 47, _ => ⟨rfl, rfl⟩ | 48, _ => ⟨rfl, rfl⟩ | 49, _ => ⟨rfl, rfl⟩ | 50, _ => ⟨rfl, rfl⟩ | 51, _ => ⟨rfl, rfl⟩ | 52, _ => ⟨rfl, rfl⟩ | 53, _ => ⟨rfl, rfl⟩ | 54, _ => ⟨rfl, rfl⟩ | 55, _ => ⟨rfl, rfl⟩ | k + 56, h => absurd h (by omega))) (k x0 b1 x47 b48)
set_option maxHeartbeats 4000000 in
set_option maxRecDepth 100000 in
theorem whole_start {p : Program} {e : Env} {s : State} {m : MethodId} {below : List Frame} {meth : Method} {c : Code} (l : Launch) (hflags : l.flags = flags0) {b L : Nat} {xs : Nat → Int32} (hL : L ≤ 3072) (C0 : lw_At p s m meth c b L xs) : W p l e room_1 s m #[Value.ref b] below meth c s.heap [] 0 0 (lw_Z below #[Value.ref b] s) (entryFrame m ([Value.ref b] : List Value).toArray 4) := by
  obtain ⟨hx, hb, hr, hml, hown, hts, hXs, hbl, hlocks, hgv⟩ := C0
  have hin : ∀ w ∈ tG, w.before #[Value.ref b] s = true := fun w hw => hts w (List.mem_filter.mp hw).1
  obtain ⟨D, gc_, hK⟩ := start_K hts
  obtain ⟨gs_, gK_, gV_, hz1, hz2, hz3, hz4, hz5, hz6⟩ := start_Z (A := fun q => s.heap.size ≤ q) hts hgv (fun a h => Nat.not_le.mpr h)
  have hZ0 : zK ((fun _ => 0), D, gc_, gs_, gK_, gV_) s := ⟨hK, hts _ wo_One, hts _ wo_Sheet, va_Nw.of rfl (hts _ wq_X1_28), va_Nw.of rfl (hts _ wq_X5_24), va_Nw.of rfl (hts _ wq_X5_31), va_Nw.of rfl (hts _ wq_X5_50)⟩
  have hl := hasL_entry [Value.ref b] (n := 4) (Nat.le_of_ble_eq_true rfl) (Nat.le_of_ble_eq_true rfl)
  rw [lg_entry_eq]
  refine law_make (l := l) (X := ((fun _ => 0), D, gc_, gs_, gK_, gV_)) (A := fun q => s.heap.size ≤ q) (C := (p, e, s, m, #[Value.ref b], below, meth, c, 4, lw_Z below #[Value.ref b] s, 0, 0)) (b := b) ⟨hx, hb, hml, hown, hin, hZ0, fun q h => h⟩ ?_ s.heap [] _ (fun k q h => by simp [gn] at h) ⟨fun i j p q h => by simp [gn] at h, fun k q h => by simp [gn] at h⟩ va_S.rf hl
  intro x0 b1 x47 b48 H locs ls hP hD hS hl
  obtain ⟨X, hX⟩ : ∃ X : Gx, X = (fun k => aF x0 b1 x47 b48 (sg k), D, gc_, gs_, gK_, gV_) := ⟨_, rfl⟩
  have hc := cells0 (X0 := ((fun _ => 0), D, gc_, gs_, gK_, gV_)) hX
  have hA : ∀ q, gA X q → s.heap.size ≤ q := by
    rintro q ⟨k, hk, rfl⟩
    rw [(hc k hk).1]
    exact hD.2 (sg k) _ (gn_at (sg_lt ⟨k, hk⟩))
  have hI : gI X := by
    intro i j hi hj h
    rw [(hc i hi).1, (hc j hj).1] at h
    have h2 := hD.1 (sg i) (sg j) _ _ (gn_at (sg_lt ⟨i, hi⟩)) (gn_at (sg_lt ⟨j, hj⟩)) h
    exact congrArg Fin.val (sg_in ⟨i, hi⟩ ⟨j, hj⟩ h2)
  have hP2 : va_P (gD X) vwCl (gw X (hp0 X)) H := by
    intro k q hk
    have lk := (List.getElem?_eq_some_iff.mp hk).1
    rw [gw_len] at lk
    rw [gw_at lk] at hk
    cases hk
    have h1 := hP (sg k) _ (gn_at (sg_lt ⟨k, lk⟩))
    rw [← (hc k lk).1] at h1
    subst hX
    exact cE3_at (hc k lk).2 h1
  have hgZ : gZ X s := by
    refine ⟨hI, by subst hX; exact hK, fun q hq => va_Nw.of rfl (hts _ (nst_in q hq)), ?_, ?_, ?_, ?_, hz5.narrow hA, hz6.narrow hA⟩
    · subst hX; exact ⟨hz1.1.narrow hA, hz1.2.narrow hA⟩
    · subst hX; exact ⟨hz2.1.narrow hA, hz2.2.narrow hA⟩
    · subst hX; exact hz3.narrow hA
    · subst hX; exact hz4
  have hS2 : va_S (gA X) s.heap H [] := ⟨hS.1, fun q h1 _ => hS.2.1 q h1 (Nat.not_le.mpr h1), fun x hx => absurd hx List.not_mem_nil⟩
  refine va_forget (fun x hx => hS.2.2 x hx) ?_
  refine law_loop (l := l) (X := X) (C := (p, e, s, m, #[Value.ref b], below, meth, c, 4, lw_Z below #[Value.ref b] s, 56, 1060)) (b := b) (L := L) (xs := xs) ⟨hx, hb, hml, hown, hin, hgZ, Nat.le_of_ble_eq_true rfl, Nat.le_of_ble_eq_true rfl⟩ ⟨hXs, hbl, fun h => Nat.not_lt.mpr (hA b h) hbl⟩ hL ?_ 0 (Nat.zero_le _) _ _ _ _ _ _ _ _ _ _ _ _ _ _ rel_0 H [] ls hP2 hS2 ?_
  · intro f lv H locs ls hP hS hl
    refine va_forget (fun x hx => hA _ (hS.2.2 x hx)) ?_
    refine W.widen (k := 600000) (n := 7302250) (Nat.le_of_ble_eq_true rfl) (Nat.le_of_ble_eq_true rfl) ?_
    exact lw_ret hx hb hr hlocks dL_law_1248
  · subst hX; exact hl