theorem fl_X0_9 : FLk RX0 9 0 0 := ⟨_, _, _, rfl, inX0, by decide, wf_X0_9⟩
theorem nl_X5_69 : NLk RX5 69 0 0 := ⟨_, _, _, _, rfl, inX0, by decide, nwg_X5_69⟩
theorem fl_X0_15 : FLk RX0 15 0 1 := ⟨_, _, _, rfl, inX0, by decide, wf_X0_15⟩
theorem nl_X5_91 : NLk RX5 91 0 1 := ⟨_, _, _, _, rfl, inX0, by decide, nwg_X5_91⟩
theorem fl_X0_18 : FLk RX0 18 0 2 := ⟨_, _, _, rfl, inX0, by decide, wf_X0_18⟩
theorem nl_X4_77 : NLk RX4 77 0 2 := ⟨_, _, _, _, rfl, inX0, by decide, nwg_X4_77⟩
theorem nl_X5_98 : NLk RX5 98 0 2 := ⟨_, _, _, _, rfl, inX0, by decide, nwg_X5_98⟩
theorem nl_X1_40 : NLk RX1 40 0 2 := ⟨_, _, _, _, rfl, inX0, by decide, nwg_X1_40⟩
theorem fl_X0_21 : FLk RX0 21 0 3 := ⟨_, _, _, rfl, inX0, by decide, wf_X0_21⟩
theorem nl_X4_86 : NLk RX4 86 0 3 := ⟨_, _, _, _, rfl, inX0, by decide, nwg_X4_86⟩
theorem nl_X5_101 : NLk RX5 101 0 3 := ⟨_, _, _, _, rfl, inX0, by decide, nwg_X5_101⟩
theorem fl_X0_24 : FLk RX0 24 0 4 := ⟨_, _, _, rfl, inX0, by decide, wf_X0_24⟩
theorem nl_X4_95 : NLk RX4 95 0 4 := ⟨_, _, _, _, rfl, inX0, by decide, nwg_X4_95⟩
theorem nl_X1_49 : NLk RX1 49 0 4 := ⟨_, _, _, _, rfl, inX0, by decide, nwg_X1_49⟩
theorem fl_X0_27 : FLk RX0 27 0 5 := ⟨_, _, _, rfl, inX0, by decide, wf_X0_27⟩
theorem nl_X1_46 : NLk RX1 46 0 5 := ⟨_, _, _, _, rfl, inX0, by decide, nwg_X1_46⟩
theorem fl_X0_30 : FLk RX0 30 0 6 := ⟨_, _, _, rfl, inX0, by decide, wf_X0_30⟩
theorem nl_X5_108 : NLk RX5 108 0 6 := ⟨_, _, _, _, rfl, inX0, by decide, nwg_X5_108⟩
theorem fl_X0_33 : FLk RX0 33 0 7 := ⟨_, _, _, rfl, inX0, by decide, wf_X0_33⟩
theorem nl_X1_43 : NLk RX1 43 0 7 := ⟨_, _, _, _, rfl, inX0, by decide, nwg_X1_43⟩
theorem nl_X5_152 : NLk RX5 152 0 7 := ⟨_, _, _, _, rfl, inX0, by decide, nwg_X5_152⟩
theorem fl_X1_9 : FLk RX1 9 1 0 := ⟨_, _, _, rfl, inX1, by decide, wf_X1_9⟩
theorem nl_X5_128 : NLk RX5 128 1 0 := ⟨_, _, _, _, rfl, inX1, by decide, nwg_X5_128⟩
theorem fl_X1_15 : FLk RX1 15 1 1 := ⟨_, _, _, rfl, inX1, by decide, wf_X1_15⟩
theorem nl_X4_83 : NLk RX4 83 1 1 := ⟨_, _, _, _, rfl, inX1, by decide, nwg_X4_83⟩
theorem nl_X5_173 : NLk RX5 173 1 1 := ⟨_, _, _, _, rfl, inX1, by decide, nwg_X5_173⟩
theorem fl_X1_20 : FLk RX1 20 1 2 := ⟨_, _, _, rfl, inX1, by decide, wf_X1_20⟩
theorem nl_X5_76 : NLk RX5 76 1 2 := ⟨_, _, _, _, rfl, inX1, by decide, nwg_X5_76⟩
theorem nl_X4_88 : NLk RX4 88 1 2 := ⟨_, _, _, _, rfl, inX1, by decide, nwg_X4_88⟩
theorem fl_X1_24 : FLk RX1 24 1 3 := ⟨_, _, _, rfl, inX1, by decide, wf_X1_24⟩
theorem fl_X3_9 : FLk RX3 9 3 0 := ⟨_, _, _, rfl, inX3, by decide, wf_X3_9⟩
theorem fl_X3_15 : FLk RX3 15 3 1 := ⟨_, _, _, rfl, inX3, by decide, wf_X3_15⟩
theorem nl_X5_194 : NLk RX5 194 3 1 := ⟨_, _, _, _, rfl, inX3, by decide, nwg_X5_194⟩
theorem fl_X3_19 : FLk RX3 19 3 2 := ⟨_, _, _, rfl, inX3, by decide, wf_X3_19⟩
theorem fl_X3_22 : FLk RX3 22 3 3 := ⟨_, _, _, rfl, inX3, by decide, wf_X3_22⟩
theorem nl_X4_30 : NLk RX4 30 3 3 := ⟨_, _, _, _, rfl, inX3, by decide, nwg_X4_30⟩
theorem fl_X3_25 : FLk RX3 25 3 4 := ⟨_, _, _, rfl, inX3, by decide, wf_X3_25⟩
theorem fl_X2_9 : FLk RX2 9 2 0 := ⟨_, _, _, rfl, inX2, by decide, wf_X2_9⟩
theorem nl_X5_230 : NLk RX5 230 2 0 := ⟨_, _, _, _, rfl, inX2, by decide, nwg_X5_230⟩
theorem fl_X2_15 : FLk RX2 15 2 1 := ⟨_, _, _, rfl, inX2, by decide, wf_X2_15⟩
theorem nl_X5_213 : NLk RX5 213 2 1 := ⟨_, _, _, _, rfl, inX2, by decide, nwg_X5_213⟩
theorem fl_X2_18 : FLk RX2 18 2 2 := ⟨_, _, _, rfl, inX2, by decide, wf_X2_18⟩
theorem nl_X5_219 : NLk RX5 219 2 2 := ⟨_, _, _, _, rfl, inX2, by decide, nwg_X5_219⟩
theorem fl_X5_12 : FLk RX5 12 4 0 := ⟨_, _, _, rfl, inX5, by decide, wf_X5_12⟩
theorem fl_X5_16 : FLk RX5 16 4 1 := ⟨_, _, _, rfl, inX5, by decide, wf_X5_16⟩
theorem fl_X5_19 : FLk RX5 19 4 2 := ⟨_, _, _, rfl, inX5, by decide, wf_X5_19⟩
theorem fl_X5_25 : FLk RX5 25 4 3 := ⟨_, _, _, rfl, inX5, by decide, wf_X5_25⟩
theorem fl_X5_32 : FLk RX5 32 4 4 := ⟨_, _, _, rfl, inX5, by decide, wf_X5_32⟩
theorem fl_X5_38 : FLk RX5 38 4 5 := ⟨_, _, _, rfl, inX5, by decide, wf_X5_38⟩
theorem fl_X5_42 : FLk RX5 42 4 6 := ⟨_, _, _, rfl, inX5, by decide, wf_X5_42⟩
theorem fl_X5_46 : FLk RX5 46 4 7 := ⟨_, _, _, rfl, inX5, by decide, wf_X5_46⟩
theorem fl_X6_9 : FLk RX6 9 5 0 := ⟨_, _, _, rfl, inX6, by decide, wf_X6_9⟩
theorem fl_X6_13 : FLk RX6 13 5 1 := ⟨_, _, _, rfl, inX6, by decide, wf_X6_13⟩
theorem fl_X6_16 : FLk RX6 16 5 2 := ⟨_, _, _, rfl, inX6, by decide, wf_X6_16⟩
theorem fl_X6_224 : FLk RX6 224 5 3 := ⟨_, _, _, rfl, inX6, by decide, wf_X6_224⟩
theorem fl_X6_19 : FLk RX6 19 5 4 := ⟨_, _, _, rfl, inX6, by decide, wf_X6_19⟩
theorem fl_X6_22 : FLk RX6 22 5 5 := ⟨_, _, _, rfl, inX6, by decide, wf_X6_22⟩
theorem fl_X6_147 : FLk RX6 147 5 6 := ⟨_, _, _, rfl, inX6, by decide, wf_X6_147⟩
theorem fl_X6_170 : FLk RX6 170 5 7 := ⟨_, _, _, rfl, inX6, by decide, wf_X6_170⟩
theorem fl_X6_154 : FLk RX6 154 5 8 := ⟨_, _, _, rfl, inX6, by decide, wf_X6_154⟩
theorem fl_X6_157 : FLk RX6 157 5 9 := ⟨_, _, _, rfl, inX6, by decide, wf_X6_157⟩
theorem fl_X6_167 : FLk RX6 167 5 10 := ⟨_, _, _, rfl, inX6, by decide, wf_X6_167⟩
theorem fl_X6_176 : FLk RX6 176 5 11 := ⟨_, _, _, rfl, inX6, by decide, wf_X6_176⟩
theorem fl_X6_25 : FLk RX6 25 5 12 := ⟨_, _, _, rfl, inX6, by decide, wf_X6_25⟩
theorem fl_X6_28 : FLk RX6 28 5 13 := ⟨_, _, _, rfl, inX6, by decide, wf_X6_28⟩
theorem fl_X6_31 : FLk RX6 31 5 14 := ⟨_, _, _, rfl, inX6, by decide, wf_X6_31⟩
theorem pt_0_0 : PTy 0 0 .int := ⟨_, _, _, tyX0, rfl, tyX0_ok, nmX0, rfl, by decide +kernel⟩
theorem pt_0_1 : PTy 0 1 .int := ⟨_, _, _, tyX0, rfl, tyX0_ok, nmX0, rfl, by decide +kernel⟩
theorem pt_0_2 : PTy 0 2 .int := ⟨_, _, _, tyX0, rfl, tyX0_ok, nmX0, rfl, by decide +kernel⟩
theorem pt_0_3 : PTy 0 3 .int := ⟨_, _, _, tyX0, rfl, tyX0_ok, nmX0, rfl, by decide +kernel⟩
theorem pt_0_4 : PTy 0 4 .int := ⟨_, _, _, tyX0, rfl, tyX0_ok, nmX0, rfl, by decide +kernel⟩
theorem pt_0_5 : PTy 0 5 .int := ⟨_, _, _, tyX0, rfl, tyX0_ok, nmX0, rfl, by decide +kernel⟩
theorem pt_0_6 : PTy 0 6 .int := ⟨_, _, _, tyX0, rfl, tyX0_ok, nmX0, rfl, by decide +kernel⟩
theorem pt_0_7 : PTy 0 7 .int := ⟨_, _, _, tyX0, rfl, tyX0_ok, nmX0, rfl, by decide +kernel⟩
theorem pt_1_0 : PTy 1 0 .int := ⟨_, _, _, tyX1, rfl, tyX1_ok, nmX1, rfl, by decide +kernel⟩
theorem pt_1_1 : PTy 1 1 .int := ⟨_, _, _, tyX1, rfl, tyX1_ok, nmX1, rfl, by decide +kernel⟩
theorem pt_2_0 : PTy 2 0 .int := ⟨_, _, _, tyX2, rfl, tyX2_ok, nmX2, rfl, by decide +kernel⟩
theorem pt_2_1 : PTy 2 1 .int := ⟨_, _, _, tyX2, rfl, tyX2_ok, nmX2, rfl, by decide +kernel⟩
theorem pt_3_1 : PTy 3 1 .int := ⟨_, _, _, tyX3, rfl, tyX3_ok, nmX3, rfl, by decide +kernel⟩
theorem pt_3_2 : PTy 3 2 .int := ⟨_, _, _, tyX3, rfl, tyX3_ok, nmX3, rfl, by decide +kernel⟩
theorem pt_3_3 : PTy 3 3 .int := ⟨_, _, _, tyX3, rfl, tyX3_ok, nmX3, rfl, by decide +kernel⟩
theorem pt_3_4 : PTy 3 4 .int := ⟨_, _, _, tyX3, rfl, tyX3_ok, nmX3, rfl, by decide +kernel⟩
theorem pt_4_7 : PTy 4 7 .boolean := ⟨_, _, _, tyX5, rfl, tyX5_ok, nmX5, rfl, by decide +kernel⟩
theorem pt_5_3 : PTy 5 3 .boolean := ⟨_, _, _, tyX6, rfl, tyX6_ok, nmX6, rfl, by decide +kernel⟩
theorem pt_5_6 : PTy 5 6 .int := ⟨_, _, _, tyX6, rfl, tyX6_ok, nmX6, rfl, by decide +kernel⟩
theorem pt_5_7 : PTy 5 7 .int := ⟨_, _, _, tyX6, rfl, tyX6_ok, nmX6, rfl, by decide +kernel⟩
theorem pt_5_8 : PTy 5 8 .int := ⟨_, _, _, tyX6, rfl, tyX6_ok, nmX6, rfl, by decide +kernel⟩
theorem pt_5_9 : PTy 5 9 .int := ⟨_, _, _, tyX6, rfl, tyX6_ok, nmX6, rfl, by decide +kernel⟩
theorem pt_5_10 : PTy 5 10 .int := ⟨_, _, _, tyX6, rfl, tyX6_ok, nmX6, rfl, by decide +kernel⟩
theorem pt_5_11 : PTy 5 11 .boolean := ⟨_, _, _, tyX6, rfl, tyX6_ok, nmX6, rfl, by decide +kernel⟩
/-! ===== the cells ===== -/
/-- the model: ints 0 isKept 1 taped 2 token 3 begin 4 at 5 value 6 bad; row m; rows 1 kept 2 was 3 found 4 tape 5 bitsOf 6 sizeOf; cells -/
abbrev MS : Type := (Nat → Int32) × (Nat → Int32) × (Nat → Nat → Int32) × (Nat → Int64)
def mfl (X : Gx) (i : Nat → Int32) : List Value := [.ref (ga X 48), .ref (ga X 49), .ref (ga X 50), .int (i 0), .ref (ga X 51), .ref (ga X 52), .int (i 1), .int (i 2), .int (i 3), .int (i 4), .int (i 5), .int (i 6), .ref (ga X 53), .ref (ga X 54), .ref (ga X 55)]
def mrow (X : Gx) (n : Nat) (g : Nat → Int32) : va_E := .inl (gc X 0, n, .inl g)
def mcell (X : Gx) (i m : Nat → Int32) (r : Nat → Nat → Int32) (c : Nat → Int64) (k : Nat) : va_E :=
  if k = 47 then .inr (5, mfl X i) else if k = 48 then mrow X 58 m else if k = 49 then mrow X 58 (r 1) else if k = 50 then mrow X 58 (r 2) else if k = 51 then mrow X 7 (r 3)
  else if k = 52 then mrow X 120 (r 4) else if k = 53 then mrow X 4 (r 5) else if k = 54 then mrow X 4 (r 6) else if k = 55 then .inl (gc X 1, 160, .inr (.inl c)) else .inr (0, [])
def oneC (o : Nat → Int32) : va_E := .inr (0, [.int (o 0), .int (o 1), .int (o 2), .int (o 3), .int (o 4), .int (o 5), .int (o 6), .int (o 7)])
/-- the class: quays b (0 here 1 kept 2 trial): q b 0 day, q b 1 count; on b k: one (on 2 8: trialOne); sb b: seenBy; tp: tape's ints 0 length 1 token 2 start 3 end; by: bytes; sh s 0 bits, sh s 1 size; nu s: numbers; fo: found; kp: isKept -/
abbrev CS : Type := (Nat → Nat → Int32) × (Nat → Nat → Nat → Int32) × (Nat → Nat → Int32) × (Nat → Int32) × (Nat → Int32) × (Nat → Nat → Int32) × (Nat → Nat → Int64) × (Nat → Int32) × Int32
def quayC (X : Gx) (b : Nat) (q : Nat → Int32) : va_E := .inr (1, [.int (q 0), .int (q 1), .ref (ga X (2 + 11 * b)), .ref (ga X (3 + 11 * b))])
def pplC (X : Gx) (b : Nat) : va_E := .inl (gc X 2, 8, .inr (.inr (.inr (.inr (fun j => some (ga X (4 + 11 * b + j)))))))
def glaC (X : Gx) (kp : Int32) : va_E := .inr (4, [.ref (ga X 1), .ref (ga X 12), .ref (ga X 23), .ref (ga X 34), .ref (ga X 35), .ref (ga X 37), .ref (ga X 46), .int kp])
def tapC (X : Gx) (tp : Nat → Int32) : va_E := .inr (3, [.ref (ga X 36), .int (tp 0), .int (tp 1), .int (tp 2), .int (tp 3)])
def shsC (X : Gx) : va_E := .inl (gc X 3, 4, .inr (.inr (.inr (.inr (fun j => some (ga X (38 + 2 * j)))))))
def sheC (X : Gx) (s : Nat) (sh : Nat → Int32) : va_E := .inr (2, [.int (sh 0), .int (sh 1), .ref (ga X (39 + 2 * s))])
def numC (X : Gx) (g : Nat → Int64) : va_E := .inl (gc X 1, 40, .inr (.inl g))
def ccell (X : Gx) (q : Nat → Nat → Int32) (on : Nat → Nat → Nat → Int32) (sb : Nat → Nat → Int32) (tp by_ : Nat → Int32) (sh : Nat → Nat → Int32) (nu : Nat → Nat → Int64) (fo : Nat → Int32) (kp : Int32) (k : Nat) : va_E :=
  if k = 0 then glaC X kp else if k < 34 then (if (k - 1) % 11 = 0 then quayC X ((k - 1) / 11) (q ((k - 1) / 11)) else if (k - 1) % 11 = 1 then pplC X ((k - 1) / 11) else if (k - 1) % 11 = 2 then mrow X 8 (sb ((k - 1) / 11)) else oneC (on ((k - 1) / 11) ((k - 1) % 11 - 3)))
  else if k = 34 then oneC (on 2 8) else if k = 35 then tapC X tp else if k = 36 then mrow X 120 by_ else if k = 37 then shsC X
  else if k < 46 then (if k % 2 = 0 then sheC X ((k - 38) / 2) (sh ((k - 38) / 2)) else numC X (nu ((k - 38) / 2))) else mrow X 7 fo
def hp (X : Gx) (S : CS) (M : MS) : Hp := fun k => if k < 47 then ccell X S.1 S.2.1 S.2.2.1 S.2.2.2.1 S.2.2.2.2.1 S.2.2.2.2.2.1 S.2.2.2.2.2.2.1 S.2.2.2.2.2.2.2.1 S.2.2.2.2.2.2.2.2 k else mcell X M.1 M.2.1 M.2.2.1 M.2.2.2 k
section HP
variable {X : Gx} {S : CS} {i m : Nat → Int32} {r : Nat → Nat → Int32} {c : Nat → Int64}
theorem hp_47 : hp X S (i, m, r, c) 47 = .inr (5, mfl X i) := rfl
theorem hp_48 : hp X S (i, m, r, c) 48 = .inl (gc X 0, 58, .inl m) := rfl
theorem hp_49 : hp X S (i, m, r, c) 49 = .inl (gc X 0, 58, .inl (r 1)) := rfl
theorem hp_50 : hp X S (i, m, r, c) 50 = .inl (gc X 0, 58, .inl (r 2)) := rfl
theorem hp_51 : hp X S (i, m, r, c) 51 = .inl (gc X 0, 7, .inl (r 3)) := rfl
theorem hp_52 : hp X S (i, m, r, c) 52 = .inl (gc X 0, 120, .inl (r 4)) := rfl
theorem hp_53 : hp X S (i, m, r, c) 53 = .inl (gc X 0, 4, .inl (r 5)) := rfl
theorem hp_54 : hp X S (i, m, r, c) 54 = .inl (gc X 0, 4, .inl (r 6)) := rfl
theorem hp_55 : hp X S (i, m, r, c) 55 = .inl (gc X 1, 160, .inr (.inl c)) := rfl
theorem hpi_0 (v : Int32) : va_up (hp X S (i, m, r, c)) 47 (.inr (5, (mfl X i).set 3 (.int v))) = hp X S (va_up i 0 v, m, r, c) := by
  funext k
  by_cases h : k = 47
  · subst h
    rfl
  · simp only [va_up_ne _ _ h, hp, mcell, if_neg h]
theorem hpi_1 (v : Int32) : va_up (hp X S (i, m, r, c)) 47 (.inr (5, (mfl X i).set 6 (.int v))) = hp X S (va_up i 1 v, m, r, c) := by
  funext k
  by_cases h : k = 47
  · subst h
    rfl
  · simp only [va_up_ne _ _ h, hp, mcell, if_neg h]
theorem hpi_2 (v : Int32) : va_up (hp X S (i, m, r, c)) 47 (.inr (5, (mfl X i).set 7 (.int v))) = hp X S (va_up i 2 v, m, r, c) := by
  funext k
  by_cases h : k = 47
  · subst h
    rfl
  · simp only [va_up_ne _ _ h, hp, mcell, if_neg h]
theorem hpi_3 (v : Int32) : va_up (hp X S (i, m, r, c)) 47 (.inr (5, (mfl X i).set 8 (.int v))) = hp X S (va_up i 3 v, m, r, c) := by
  funext k
  by_cases h : k = 47
  · subst h
    rfl
  · simp only [va_up_ne _ _ h, hp, mcell, if_neg h]
theorem hpi_4 (v : Int32) : va_up (hp X S (i, m, r, c)) 47 (.inr (5, (mfl X i).set 9 (.int v))) = hp X S (va_up i 4 v, m, r, c) := by
  funext k
  by_cases h : k = 47
  · subst h
    rfl
  · simp only [va_up_ne _ _ h, hp, mcell, if_neg h]
theorem hpi_5 (v : Int32) : va_up (hp X S (i, m, r, c)) 47 (.inr (5, (mfl X i).set 10 (.int v))) = hp X S (va_up i 5 v, m, r, c) := by
  funext k
  by_cases h : k = 47
  · subst h
    rfl
  · simp only [va_up_ne _ _ h, hp, mcell, if_neg h]
theorem hpi_6 (v : Int32) : va_up (hp X S (i, m, r, c)) 47 (.inr (5, (mfl X i).set 11 (.int v))) = hp X S (va_up i 6 v, m, r, c) := by
  funext k
  by_cases h : k = 47
  · subst h
    rfl
  · simp only [va_up_ne _ _ h, hp, mcell, if_neg h]
theorem hpr_0 (g : Nat → Int32) : va_up (hp X S (i, m, r, c)) 48 (.inl (gc X 0, 58, .inl g)) = hp X S (i, g, r, c) := by
  funext k
  by_cases h : k = 48
  · subst h
    rfl
  · simp only [va_up_ne _ _ h, hp, mcell, mrow, if_neg h]
theorem hpr_1 (g : Nat → Int32) : va_up (hp X S (i, m, r, c)) 49 (.inl (gc X 0, 58, .inl g)) = hp X S (i, m, va_up r 1 g, c) := by
  funext k
  by_cases h : k = 49
  · subst h
    rfl
  · simp only [va_up_ne _ _ h, hp, mcell, mrow, if_neg h]
    simp [va_up]
theorem hpr_2 (g : Nat → Int32) : va_up (hp X S (i, m, r, c)) 50 (.inl (gc X 0, 58, .inl g)) = hp X S (i, m, va_up r 2 g, c) := by
  funext k
  by_cases h : k = 50
  · subst h
    rfl
  · simp only [va_up_ne _ _ h, hp, mcell, mrow, if_neg h]
    simp [va_up]
theorem hpr_3 (g : Nat → Int32) : va_up (hp X S (i, m, r, c)) 51 (.inl (gc X 0, 7, .inl g)) = hp X S (i, m, va_up r 3 g, c) := by
  funext k
  by_cases h : k = 51
  · subst h
    rfl
  · simp only [va_up_ne _ _ h, hp, mcell, mrow, if_neg h]
    simp [va_up]
theorem hpr_4 (g : Nat → Int32) : va_up (hp X S (i, m, r, c)) 52 (.inl (gc X 0, 120, .inl g)) = hp X S (i, m, va_up r 4 g, c) := by
  funext k
  by_cases h : k = 52
  · subst h
    rfl
  · simp only [va_up_ne _ _ h, hp, mcell, mrow, if_neg h]
    simp [va_up]
theorem hpr_5 (g : Nat → Int32) : va_up (hp X S (i, m, r, c)) 53 (.inl (gc X 0, 4, .inl g)) = hp X S (i, m, va_up r 5 g, c) := by
  funext k
  by_cases h : k = 53
  · subst h
    rfl
  · simp only [va_up_ne _ _ h, hp, mcell, mrow, if_neg h]
    simp [va_up]
theorem hpr_6 (g : Nat → Int32) : va_up (hp X S (i, m, r, c)) 54 (.inl (gc X 0, 4, .inl g)) = hp X S (i, m, va_up r 6 g, c) := by
  funext k
  by_cases h : k = 54
  · subst h
    rfl
  · simp only [va_up_ne _ _ h, hp, mcell, mrow, if_neg h]
    simp [va_up]
theorem hpc (g : Nat → Int64) : va_up (hp X S (i, m, r, c)) 55 (.inl (gc X 1, 160, .inr (.inl g))) = hp X S (i, m, r, g) := by
  funext k
  by_cases h : k = 55
  · subst h
    rfl
  · by_cases h2 : k < 47
    · simp only [va_up_ne _ _ h, hp, if_pos h2]
    · simp only [va_up_ne _ _ h, hp, if_neg h2, mcell, if_neg h]
end HP
