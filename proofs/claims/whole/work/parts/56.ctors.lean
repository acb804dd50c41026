def xA (a : Nat → Nat) (n : Nat) (b : Nat → Nat) (k : Nat) : Nat := if k < n then a k else b (k - n)
def xF (f : Hp) (n : Nat) (g : Hp) (k : Nat) : va_E := if k < n then f k else g (k - n)
theorem gn_ext {a a' : Nat → Nat} {n : Nat} {f f' : Hp} (h : ∀ k, k < n → a k = a' k ∧ f k = f' k) : gn a n f = gn a' n f' := List.map_congr_left (fun k hk => by rw [(h k (List.mem_range.mp hk)).1, (h k (List.mem_range.mp hk)).2])
def refA (X : Gx) (t N : Nat) (g : Nat → Option Nat) : va_E := .inl (gc X t, N, .inr (.inr (.inr (.inr g))))
def intA (X : Gx) (N : Nat) : va_E := .inl (gc X 0, N, .inl (fun _ => 0))
def lonA (X : Gx) (N : Nat) : va_E := .inl (gc X 1, N, .inr (.inl (fun _ => 0)))
def one0 : va_E := .inr (0, [.int 0, .int 0, .int 0, .int 0, .int 0, .int 0, .int 0, .int 0])
def pB (b : Nat → Nat) : Nat → Option Nat := va_up (va_up (va_up (va_up (va_up (va_up (va_up (va_up (fun _ => none) 0 (some (b 2))) 1 (some (b 3))) 2 (some (b 4))) 3 (some (b 5))) 4 (some (b 6))) 5 (some (b 7))) 6 (some (b 8))) 7 (some (b 9))
def sB (b : Nat → Nat) : Nat → Option Nat := va_up (va_up (va_up (va_up (fun _ => none) 0 (some (b 38))) 1 (some (b 40))) 2 (some (b 42))) 3 (some (b 44))
def qT (X : Gx) (b : Nat → Nat) (k : Nat) : va_E := if k = 0 then refA X 2 8 (pB b) else if k = 1 then intA X 8 else one0
def qC0 (b : Nat → Nat) : va_E := .inr (1, [.int 0, .int 0, .ref (b 0), .ref (b 1)])
def gT (X : Gx) (b : Nat → Nat) (k : Nat) : va_E := if k < 33 then (if k % 11 = 0 then qC0 (fun j => b (k + 1 + j)) else qT X (fun j => b (11 * (k / 11) + 1 + j)) (k % 11 - 1)) else if k = 33 then one0 else if k = 34 then .inr (3, [.ref (b 35), .int 0, .int 0, .int 0, .int 0]) else if k = 35 then intA X 120 else if k = 36 then refA X 3 4 (sB b) else if k = 37 then intA X 7 else if k % 2 = 0 then .inr (2, [.int 0, .int 0, .ref (b (k + 1))]) else lonA X 40
def gC0 (b : Nat → Nat) : va_E := .inr (4, [.ref (b 0), .ref (b 11), .ref (b 22), .ref (b 33), .ref (b 34), .ref (b 36), .ref (b 37), .int 0])
def mT (X : Gx) (k : Nat) : va_E := if k < 3 then intA X 58 else if k = 3 then intA X 7 else if k = 4 then intA X 120 else if k < 7 then intA X 4 else lonA X 160
def mC0 (b : Nat → Nat) : va_E := .inr (5, [.ref (b 0), .ref (b 1), .ref (b 2), .int 0, .ref (b 3), .ref (b 4), .int 0, .int 0, .int 0, .int 0, .int 0, .int 0, .ref (b 5), .ref (b 6), .ref (b 7)])
theorem upd_z : upd (fun _ => (0 : Int32)) 1 0 = (fun _ => 0) := by funext k; simp [upd]
set_option maxHeartbeats 4000000 in
theorem c_X0_init {l : Launch} {X : Gx} {a : Nat → Nat} {f : Hp} {n i : Nat} (sz : Nat) : Cn l X yX0_init cX0_init 1 1 30 a n f i sz 0 0 n (fun a' f' => a' = a ∧ f' = f) := by
  refine ct_n (own := RX0) (lv := [some (.ref (a i))]) (by decide) rfl rfl (Nat.le_of_ble_eq_true rfl) (Nat.le_of_ble_eq_true rfl) rfl (fun A C hC hI hE => ?_)
  refine n_aload_n hC rfl dX0_init_0 (q := 1) rfl ?_
  refine n_obj hC wm_X0_3 ⟨Nat.le_of_ble_eq_true rfl, Nat.le_of_ble_eq_true rfl⟩ dX0_init_1 (q := 4) rfl ?_
  exact hE _ _ _ _ ⟨rfl, rfl⟩ dX0_init_4
set_option maxHeartbeats 4000000 in
set_option maxRecDepth 100000 in
theorem c_X1_init_2 {l : Launch} {X : Gx} {a : Nat → Nat} {f : Hp} (hf : f 1 = .inr (1, [.int 0, .int 0, .null, .null])) (sz : Nat) : Cn l X yX1_init cX1_init 2 2 50 a 2 f 1 sz 10 80 12 (fun a' f' => ∃ b, a' = xA a 2 b ∧ f' = xF (va_up f 1 (qC0 b)) 2 (qT X b)) := by
  refine ct_n (own := RX1) (lv := [some (.ref (a 1)), none]) (by decide) rfl rfl (Nat.le_of_ble_eq_true rfl) (Nat.le_of_ble_eq_true rfl) rfl (fun A C hC hI hE => ?_)
  refine n_self hf ?_
  refine n_aload_n hC rfl dX1_init_0 (q := 1) rfl ?_
  refine n_obj hC wm_X1_3 ⟨Nat.le_of_ble_eq_true rfl, Nat.le_of_ble_eq_true rfl⟩ dX1_init_1 (q := 4) rfl ?_
  refine n_aload_n hC rfl dX1_init_4 (q := 5) rfl ?_
  refine n_iconst hC (v := 0) rfl dX1_init_5 (q := 6) rfl ?_
  refine n_put hC fl_X1_9 pt_1_0 (i := 1) (by decide) rfl (Nat.le_of_ble_eq_true rfl) rfl rfl dX1_init_6 (q := 9) rfl ?_
  refine n_aload_n hC rfl dX1_init_9 (q := 10) rfl ?_
  refine n_iconst hC (v := 0) rfl dX1_init_10 (q := 11) rfl ?_
  refine n_put hC fl_X1_15 pt_1_1 (i := 1) (by decide) rfl (Nat.le_of_ble_eq_true rfl) rfl rfl dX1_init_11 (q := 14) rfl ?_
  refine n_aload_n hC rfl dX1_init_14 (q := 15) rfl ?_
  refine n_bipush hC (v := 8) rfl dX1_init_15 (q := 17) rfl ?_
  refine n_anew hC 2 rfl wc_X1_18 (fun U h => h.2.1) (N := 8) (by decide) rfl (Nat.le_of_ble_eq_true rfl) ⟨Nat.le_of_ble_eq_true rfl, Nat.le_of_ble_eq_true rfl⟩ dX1_init_17 (q := 20) rfl (fun x2 => ?_)
  refine n_putF hC hI fl_X1_20 pf_1_2 (i := 1) (by decide) rfl (Nat.le_of_ble_eq_true rfl) rfl rfl dX1_init_20 (q := 23) rfl ?_
  refine n_aload_n hC rfl dX1_init_23 (q := 24) rfl ?_
  refine n_bipush hC (v := 8) rfl dX1_init_24 (q := 26) rfl ?_
  refine n_newI hC (N := 8) (by decide) rfl (Nat.le_of_ble_eq_true rfl) ⟨Nat.le_of_ble_eq_true rfl, Nat.le_of_ble_eq_true rfl⟩ dX1_init_26 (q := 28) rfl (fun x3 => ?_)
  refine n_putF hC hI fl_X1_24 pf_1_3 (i := 1) (by decide) rfl (Nat.le_of_ble_eq_true rfl) rfl rfl dX1_init_28 (q := 31) rfl ?_
  refine n_iconst hC (v := 0) rfl dX1_init_31 (q := 32) rfl ?_
  refine n_istore_1 hC rfl dX1_init_32 (q := 33) rfl ?_
  refine n_iload_n hC rfl dX1_init_33 (q := 34) rfl ?_
  refine n_bipush hC (v := 8) rfl dX1_init_34 (q := 36) rfl ?_
  refine n_icmp_ge hC dX1_init_36 (t := 58) rfl (q := 39) rfl (fun h => absurd h (by decide)) (fun _ => ?_)
  refine n_aload_n hC rfl dX1_init_39 (q := 40) rfl ?_
  refine n_get hC fl_X1_20 (i := 1) (by decide) rfl rfl dX1_init_40 (q := 43) rfl ?_
  refine n_iload_n hC rfl dX1_init_43 (q := 44) rfl ?_
  refine n_new hC (ci := 0) (fs := [.int 0, .int 0, .int 0, .int 0, .int 0, .int 0, .int 0, .int 0]) tyX0 tyX0_ok inX0 wc_X1_18 wn_X0 wi_X0 rfl (fun j hj => by rcases (show j = 0 ∨ j = 1 ∨ j = 2 ∨ j = 3 ∨ j = 4 ∨ j = 5 ∨ j = 6 ∨ j = 7 by omega) with rfl | rfl | rfl | rfl | rfl | rfl | rfl | rfl <;> rfl) ⟨Nat.le_of_ble_eq_true rfl, Nat.le_of_ble_eq_true rfl⟩ dX1_init_44 (q := 47) rfl (fun x4 => ?_)
  refine n_dup hC rfl dX1_init_47 (q := 48) rfl ?_
  refine n_callN hC (i := 4) (fun U h => h.2.2.2.1) wI_X0_init wi_X0 wd_X0_init rfl (by decide +kernel) (fun sz => c_X0_init sz) ⟨Nat.le_of_ble_eq_true rfl, Nat.le_of_ble_eq_true rfl⟩ ⟨Nat.le_of_ble_eq_true rfl, Nat.le_of_ble_eq_true rfl⟩ (Nat.le_of_ble_eq_true rfl) dX1_init_48 (q := 51) rfl ?_
  rintro _ _ ⟨rfl, rfl⟩
  refine n_aast hC 2 (i1 := 2) (i2 := 4) (j := 0) (by decide) rfl rfl (by decide) rfl (ci := 0) rfl (vp_l (by decide)) rfl dX1_init_51 (q := 52) rfl ?_
  refine n_iinc_1 hC (v := 1) rfl (by decide) dX1_init_52 (q := 55) rfl ?_
  refine n_goto hC dX1_init_55 (t := 33) rfl ?_
  refine n_iload_n hC rfl dX1_init_33 (q := 34) rfl ?_
  refine n_bipush hC (v := 8) rfl dX1_init_34 (q := 36) rfl ?_
  refine n_icmp_ge hC dX1_init_36 (t := 58) rfl (q := 39) rfl (fun h => absurd h (by decide)) (fun _ => ?_)
  refine n_aload_n hC rfl dX1_init_39 (q := 40) rfl ?_
  refine n_get hC fl_X1_20 (i := 1) (by decide) rfl rfl dX1_init_40 (q := 43) rfl ?_
  refine n_iload_n hC rfl dX1_init_43 (q := 44) rfl ?_
  refine n_new hC (ci := 0) (fs := [.int 0, .int 0, .int 0, .int 0, .int 0, .int 0, .int 0, .int 0]) tyX0 tyX0_ok inX0 wc_X1_18 wn_X0 wi_X0 rfl (fun j hj => by rcases (show j = 0 ∨ j = 1 ∨ j = 2 ∨ j = 3 ∨ j = 4 ∨ j = 5 ∨ j = 6 ∨ j = 7 by omega) with rfl | rfl | rfl | rfl | rfl | rfl | rfl | rfl <;> rfl) ⟨Nat.le_of_ble_eq_true rfl, Nat.le_of_ble_eq_true rfl⟩ dX1_init_44 (q := 47) rfl (fun x5 => ?_)
  refine n_dup hC rfl dX1_init_47 (q := 48) rfl ?_
  refine n_callN hC (i := 5) (fun U h => h.2.2.2.1) wI_X0_init wi_X0 wd_X0_init rfl (by decide +kernel) (fun sz => c_X0_init sz) ⟨Nat.le_of_ble_eq_true rfl, Nat.le_of_ble_eq_true rfl⟩ ⟨Nat.le_of_ble_eq_true rfl, Nat.le_of_ble_eq_true rfl⟩ (Nat.le_of_ble_eq_true rfl) dX1_init_48 (q := 51) rfl ?_
  rintro _ _ ⟨rfl, rfl⟩
  refine n_aast hC 2 (i1 := 2) (i2 := 5) (j := 1) (by decide) rfl rfl (by decide) rfl (ci := 0) rfl (vp_l (by decide)) rfl dX1_init_51 (q := 52) rfl ?_
  refine n_iinc_1 hC (v := 2) rfl (by decide) dX1_init_52 (q := 55) rfl ?_
  refine n_goto hC dX1_init_55 (t := 33) rfl ?_
  refine n_iload_n hC rfl dX1_init_33 (q := 34) rfl ?_
  refine n_bipush hC (v := 8) rfl dX1_init_34 (q := 36) rfl ?_
  refine n_icmp_ge hC dX1_init_36 (t := 58) rfl (q := 39) rfl (fun h => absurd h (by decide)) (fun _ => ?_)
  refine n_aload_n hC rfl dX1_init_39 (q := 40) rfl ?_
  refine n_get hC fl_X1_20 (i := 1) (by decide) rfl rfl dX1_init_40 (q := 43) rfl ?_
  refine n_iload_n hC rfl dX1_init_43 (q := 44) rfl ?_
  refine n_new hC (ci := 0) (fs := [.int 0, .int 0, .int 0, .int 0, .int 0, .int 0, .int 0, .int 0]) tyX0 tyX0_ok inX0 wc_X1_18 wn_X0 wi_X0 rfl (fun j hj => by rcases (show j = 0 ∨ j = 1 ∨ j = 2 ∨ j = 3 ∨ j = 4 ∨ j = 5 ∨ j = 6 ∨ j = 7 by omega) with rfl | rfl | rfl | rfl | rfl | rfl | rfl | rfl <;> rfl) ⟨Nat.le_of_ble_eq_true rfl, Nat.le_of_ble_eq_true rfl⟩ dX1_init_44 (q := 47) rfl (fun x6 => ?_)
  refine n_dup hC rfl dX1_init_47 (q := 48) rfl ?_
  refine n_callN hC (i := 6) (fun U h => h.2.2.2.1) wI_X0_init wi_X0 wd_X0_init rfl (by decide +kernel) (fun sz => c_X0_init sz) ⟨Nat.le_of_ble_eq_true rfl, Nat.le_of_ble_eq_true rfl⟩ ⟨Nat.le_of_ble_eq_true rfl, Nat.le_of_ble_eq_true rfl⟩ (Nat.le_of_ble_eq_true rfl) dX1_init_48 (q := 51) rfl ?_
  rintro _ _ ⟨rfl, rfl⟩
  refine n_aast hC 2 (i1 := 2) (i2 := 6) (j := 2) (by decide) rfl rfl (by decide) rfl (ci := 0) rfl (vp_l (by decide)) rfl dX1_init_51 (q := 52) rfl ?_
  refine n_iinc_1 hC (v := 3) rfl (by decide) dX1_init_52 (q := 55) rfl ?_
  refine n_goto hC dX1_init_55 (t := 33) rfl ?_
  refine n_iload_n hC rfl dX1_init_33 (q := 34) rfl ?_
  refine n_bipush hC (v := 8) rfl dX1_init_34 (q := 36) rfl ?_
  refine n_icmp_ge hC dX1_init_36 (t := 58) rfl (q := 39) rfl (fun h => absurd h (by decide)) (fun _ => ?_)
  refine n_aload_n hC rfl dX1_init_39 (q := 40) rfl ?_
  refine n_get hC fl_X1_20 (i := 1) (by decide) rfl rfl dX1_init_40 (q := 43) rfl ?_
  refine n_iload_n hC rfl dX1_init_43 (q := 44) rfl ?_
  refine n_new hC (ci := 0) (fs := [.int 0, .int 0, .int 0, .int 0, .int 0, .int 0, .int 0, .int 0]) tyX0 tyX0_ok inX0 wc_X1_18 wn_X0 wi_X0 rfl (fun j hj => by rcases (show j = 0 ∨ j = 1 ∨ j = 2 ∨ j = 3 ∨ j = 4 ∨ j = 5 ∨ j = 6 ∨ j = 7 by omega) with rfl | rfl | rfl | rfl | rfl | rfl | rfl | rfl <;> rfl) ⟨Nat.le_of_ble_eq_true rfl, Nat.le_of_ble_eq_true rfl⟩ dX1_init_44 (q := 47) rfl (fun x7 => ?_)
  refine n_dup hC rfl dX1_init_47 (q := 48) rfl ?_
  refine n_callN hC (i := 7) (fun U h => h.2.2.2.1) wI_X0_init wi_X0 wd_X0_init rfl (by decide +kernel) (fun sz => c_X0_init sz) ⟨Nat.le_of_ble_eq_true rfl, Nat.le_of_ble_eq_true rfl⟩ ⟨Nat.le_of_ble_eq_true rfl, Nat.le_of_ble_eq_true rfl⟩ (Nat.le_of_ble_eq_true rfl) dX1_init_48 (q := 51) rfl ?_
  rintro _ _ ⟨rfl, rfl⟩
  refine n_aast hC 2 (i1 := 2) (i2 := 7) (j := 3) (by decide) rfl rfl (by decide) rfl (ci := 0) rfl (vp_l (by decide)) rfl dX1_init_51 (q := 52) rfl ?_
  refine n_iinc_1 hC (v := 4) rfl (by decide) dX1_init_52 (q := 55) rfl ?_
  refine n_goto hC dX1_init_55 (t := 33) rfl ?_
  refine n_iload_n hC rfl dX1_init_33 (q := 34) rfl ?_
  refine n_bipush hC (v := 8) rfl dX1_init_34 (q := 36) rfl ?_
  refine n_icmp_ge hC dX1_init_36 (t := 58) rfl (q := 39) rfl (fun h => absurd h (by decide)) (fun _ => ?_)
  refine n_aload_n hC rfl dX1_init_39 (q := 40) rfl ?_
  refine n_get hC fl_X1_20 (i := 1) (by decide) rfl rfl dX1_init_40 (q := 43) rfl ?_
  refine n_iload_n hC rfl dX1_init_43 (q := 44) rfl ?_
  refine n_new hC (ci := 0) (fs := [.int 0, .int 0, .int 0, .int 0, .int 0, .int 0, .int 0, .int 0]) tyX0 tyX0_ok inX0 wc_X1_18 wn_X0 wi_X0 rfl (fun j hj => by rcases (show j = 0 ∨ j = 1 ∨ j = 2 ∨ j = 3 ∨ j = 4 ∨ j = 5 ∨ j = 6 ∨ j = 7 by omega) with rfl | rfl | rfl | rfl | rfl | rfl | rfl | rfl <;> rfl) ⟨Nat.le_of_ble_eq_true rfl, Nat.le_of_ble_eq_true rfl⟩ dX1_init_44 (q := 47) rfl (fun x8 => ?_)
  refine n_dup hC rfl dX1_init_47 (q := 48) rfl ?_
  refine n_callN hC (i := 8) (fun U h => h.2.2.2.1) wI_X0_init wi_X0 wd_X0_init rfl (by decide +kernel) (fun sz => c_X0_init sz) ⟨Nat.le_of_ble_eq_true rfl, Nat.le_of_ble_eq_true rfl⟩ ⟨Nat.le_of_ble_eq_true rfl, Nat.le_of_ble_eq_true rfl⟩ (Nat.le_of_ble_eq_true rfl) dX1_init_48 (q := 51) rfl ?_
  rintro _ _ ⟨rfl, rfl⟩
  refine n_aast hC 2 (i1 := 2) (i2 := 8) (j := 4) (by decide) rfl rfl (by decide) rfl (ci := 0) rfl (vp_l (by decide)) rfl dX1_init_51 (q := 52) rfl ?_
  refine n_iinc_1 hC (v := 5) rfl (by decide) dX1_init_52 (q := 55) rfl ?_
  refine n_goto hC dX1_init_55 (t := 33) rfl ?_
  refine n_iload_n hC rfl dX1_init_33 (q := 34) rfl ?_
  refine n_bipush hC (v := 8) rfl dX1_init_34 (q := 36) rfl ?_
  refine n_icmp_ge hC dX1_init_36 (t := 58) rfl (q := 39) rfl (fun h => absurd h (by decide)) (fun _ => ?_)
  refine n_aload_n hC rfl dX1_init_39 (q := 40) rfl ?_
  refine n_get hC fl_X1_20 (i := 1) (by decide) rfl rfl dX1_init_40 (q := 43) rfl ?_
  refine n_iload_n hC rfl dX1_init_43 (q := 44) rfl ?_
  refine n_new hC (ci := 0) (fs := [.int 0, .int 0, .int 0, .int 0, .int 0, .int 0, .int 0, .int 0]) tyX0 tyX0_ok inX0 wc_X1_18 wn_X0 wi_X0 rfl (fun j hj => by rcases (show j = 0 ∨ j = 1 ∨ j = 2 ∨ j = 3 ∨ j = 4 ∨ j = 5 ∨ j = 6 ∨ j = 7 by omega) with rfl | rfl | rfl | rfl | rfl | rfl | rfl | rfl <;> rfl) ⟨Nat.le_of_ble_eq_true rfl, Nat.le_of_ble_eq_true rfl⟩ dX1_init_44 (q := 47) rfl (fun x9 => ?_)
  refine n_dup hC rfl dX1_init_47 (q := 48) rfl ?_
  refine n_callN hC (i := 9) (fun U h => h.2.2.2.1) wI_X0_init wi_X0 wd_X0_init rfl (by decide +kernel) (fun sz => c_X0_init sz) ⟨Nat.le_of_ble_eq_true rfl, Nat.le_of_ble_eq_true rfl⟩ ⟨Nat.le_of_ble_eq_true rfl, Nat.le_of_ble_eq_true rfl⟩ (Nat.le_of_ble_eq_true rfl) dX1_init_48 (q := 51) rfl ?_
  rintro _ _ ⟨rfl, rfl⟩
  refine n_aast hC 2 (i1 := 2) (i2 := 9) (j := 5) (by decide) rfl rfl (by decide) rfl (ci := 0) rfl (vp_l (by decide)) rfl dX1_init_51 (q := 52) rfl ?_
  refine n_iinc_1 hC (v := 6) rfl (by decide) dX1_init_52 (q := 55) rfl ?_
  refine n_goto hC dX1_init_55 (t := 33) rfl ?_
  refine n_iload_n hC rfl dX1_init_33 (q := 34) rfl ?_
  refine n_bipush hC (v := 8) rfl dX1_init_34 (q := 36) rfl ?_
  refine n_icmp_ge hC dX1_init_36 (t := 58) rfl (q := 39) rfl (fun h => absurd h (by decide)) (fun _ => ?_)
  refine n_aload_n hC rfl dX1_init_39 (q := 40) rfl ?_
  refine n_get hC fl_X1_20 (i := 1) (by decide) rfl rfl dX1_init_40 (q := 43) rfl ?_
  refine n_iload_n hC rfl dX1_init_43 (q := 44) rfl ?_
  refine n_new hC (ci := 0) (fs := [.int 0, .int 0, .int 0, .int 0, .int 0, .int 0, .int 0, .int 0]) tyX0 tyX0_ok inX0 wc_X1_18 wn_X0 wi_X0 rfl (fun j hj => by rcases (show j = 0 ∨ j = 1 ∨ j = 2 ∨ j = 3 ∨ j = 4 ∨ j = 5 ∨ j = 6 ∨ j = 7 by omega) with rfl | rfl | rfl | rfl | rfl | rfl | rfl | rfl <;> rfl) ⟨Nat.le_of_ble_eq_true rfl, Nat.le_of_ble_eq_true rfl⟩ dX1_init_44 (q := 47) rfl (fun x10 => ?_)
  refine n_dup hC rfl dX1_init_47 (q := 48) rfl ?_
  refine n_callN hC (i := 10) (fun U h => h.2.2.2.1) wI_X0_init wi_X0 wd_X0_init rfl (by decide +kernel) (fun sz => c_X0_init sz) ⟨Nat.le_of_ble_eq_true rfl, Nat.le_of_ble_eq_true rfl⟩ ⟨Nat.le_of_ble_eq_true rfl, Nat.le_of_ble_eq_true rfl⟩ (Nat.le_of_ble_eq_true rfl) dX1_init_48 (q := 51) rfl ?_
  rintro _ _ ⟨rfl, rfl⟩
  refine n_aast hC 2 (i1 := 2) (i2 := 10) (j := 6) (by decide) rfl rfl (by decide) rfl (ci := 0) rfl (vp_l (by decide)) rfl dX1_init_51 (q := 52) rfl ?_
  refine n_iinc_1 hC (v := 7) rfl (by decide) dX1_init_52 (q := 55) rfl ?_
  refine n_goto hC dX1_init_55 (t := 33) rfl ?_
  refine n_iload_n hC rfl dX1_init_33 (q := 34) rfl ?_
  refine n_bipush hC (v := 8) rfl dX1_init_34 (q := 36) rfl ?_
  refine n_icmp_ge hC dX1_init_36 (t := 58) rfl (q := 39) rfl (fun h => absurd h (by decide)) (fun _ => ?_)
  refine n_aload_n hC rfl dX1_init_39 (q := 40) rfl ?_
  refine n_get hC fl_X1_20 (i := 1) (by decide) rfl rfl dX1_init_40 (q := 43) rfl ?_
  refine n_iload_n hC rfl dX1_init_43 (q := 44) rfl ?_
  refine n_new hC (ci := 0) (fs := [.int 0, .int 0, .int 0, .int 0, .int 0, .int 0, .int 0, .int 0]) tyX0 tyX0_ok inX0 wc_X1_18 wn_X0 wi_X0 rfl (fun j hj => by rcases (show j = 0 ∨ j = 1 ∨ j = 2 ∨ j = 3 ∨ j = 4 ∨ j = 5 ∨ j = 6 ∨ j = 7 by omega) with rfl | rfl | rfl | rfl | rfl | rfl | rfl | rfl <;> rfl) ⟨Nat.le_of_ble_eq_true rfl, Nat.le_of_ble_eq_true rfl⟩ dX1_init_44 (q := 47) rfl (fun x11 => ?_)
  refine n_dup hC rfl dX1_init_47 (q := 48) rfl ?_
  refine n_callN hC (i := 11) (fun U h => h.2.2.2.1) wI_X0_init wi_X0 wd_X0_init rfl (by decide +kernel) (fun sz => c_X0_init sz) ⟨Nat.le_of_ble_eq_true rfl, Nat.le_of_ble_eq_true rfl⟩ ⟨Nat.le_of_ble_eq_true rfl, Nat.le_of_ble_eq_true rfl⟩ (Nat.le_of_ble_eq_true rfl) dX1_init_48 (q := 51) rfl ?_
  rintro _ _ ⟨rfl, rfl⟩
  refine n_aast hC 2 (i1 := 2) (i2 := 11) (j := 7) (by decide) rfl rfl (by decide) rfl (ci := 0) rfl (vp_l (by decide)) rfl dX1_init_51 (q := 52) rfl ?_
  refine n_iinc_1 hC (v := 8) rfl (by decide) dX1_init_52 (q := 55) rfl ?_
  refine n_goto hC dX1_init_55 (t := 33) rfl ?_
  refine n_iload_n hC rfl dX1_init_33 (q := 34) rfl ?_
  refine n_bipush hC (v := 8) rfl dX1_init_34 (q := 36) rfl ?_
  refine n_icmp_ge hC dX1_init_36 (t := 58) rfl (q := 39) rfl (fun _ => ?_) (fun h => absurd (by decide) h)
  exact n_eq (a' := xA a 2 (va_up (va_up (va_up (va_up (va_up (va_up (va_up (va_up (va_up (va_up (fun _ => 0) 0 x2) 1 x3) 2 x4) 3 x5) 4 x6) 5 x7) 6 x8) 7 x9) 8 x10) 9 x11)) (f' := xF (va_up f 1 (qC0 (va_up (va_up (va_up (va_up (va_up (va_up (va_up (va_up (va_up (va_up (fun _ => 0) 0 x2) 1 x3) 2 x4) 3 x5) 4 x6) 5 x7) 6 x8) 7 x9) 8 x10) 9 x11))) 2 (qT X (va_up (va_up (va_up (va_up (va_up (va_up (va_up (va_up (va_up (va_up (fun _ => 0) 0 x2) 1 x3) 2 x4) 3 x5) 4 x6) 5 x7) 6 x8) 7 x9) 8 x10) 9 x11))) (gn_ext (fun k hk => match k, hk with | 0, _ => ⟨rfl, rfl⟩ | 1, _ => ⟨rfl, rfl⟩ | 2, _ => ⟨rfl, rfl⟩ | 3, _ => ⟨rfl, rfl⟩ | 4, _ => ⟨rfl, rfl⟩ | 5, _ => ⟨rfl, rfl⟩ | 6, _ => ⟨rfl, rfl⟩ | 7, _ => ⟨rfl, rfl⟩ | 8, _ => ⟨rfl, rfl⟩ | 9, _ => ⟨rfl, rfl⟩ | 10, _ => ⟨rfl, rfl⟩ | 11, _ => ⟨rfl, rfl⟩ | k + 12, h => absurd h (by omega))) (hE _ _ _ _ ⟨(va_up (va_up (va_up (va_up (va_up (va_up (va_up (va_up (va_up (va_up (fun _ => 0) 0 x2) 1 x3) 2 x4) 3 x5) 4 x6) 5 x7) 6 x8) 7 x9) 8 x10) 9 x11), rfl, rfl⟩ dX1_init_58)

set_option maxHeartbeats 4000000 in
set_option maxRecDepth 100000 in
theorem c_X1_init_13 {l : Launch} {X : Gx} {a : Nat → Nat} {f : Hp} (hf : f 12 = .inr (1, [.int 0, .int 0, .null, .null])) (sz : Nat) : Cn l X yX1_init cX1_init 2 2 50 a 13 f 12 sz 10 80 23 (fun a' f' => ∃ b, a' = xA a 13 b ∧ f' = xF (va_up f 12 (qC0 b)) 13 (qT X b)) := by
  refine ct_n (own := RX1) (lv := [some (.ref (a 12)), none]) (by decide) rfl rfl (Nat.le_of_ble_eq_true rfl) (Nat.le_of_ble_eq_true rfl) rfl (fun A C hC hI hE => ?_)
  refine n_self hf ?_
  refine n_aload_n hC rfl dX1_init_0 (q := 1) rfl ?_
  refine n_obj hC wm_X1_3 ⟨Nat.le_of_ble_eq_true rfl, Nat.le_of_ble_eq_true rfl⟩ dX1_init_1 (q := 4) rfl ?_
  refine n_aload_n hC rfl dX1_init_4 (q := 5) rfl ?_
  refine n_iconst hC (v := 0) rfl dX1_init_5 (q := 6) rfl ?_
  refine n_put hC fl_X1_9 pt_1_0 (i := 12) (by decide) rfl (Nat.le_of_ble_eq_true rfl) rfl rfl dX1_init_6 (q := 9) rfl ?_
  refine n_aload_n hC rfl dX1_init_9 (q := 10) rfl ?_
  refine n_iconst hC (v := 0) rfl dX1_init_10 (q := 11) rfl ?_
  refine n_put hC fl_X1_15 pt_1_1 (i := 12) (by decide) rfl (Nat.le_of_ble_eq_true rfl) rfl rfl dX1_init_11 (q := 14) rfl ?_
  refine n_aload_n hC rfl dX1_init_14 (q := 15) rfl ?_
  refine n_bipush hC (v := 8) rfl dX1_init_15 (q := 17) rfl ?_
  refine n_anew hC 2 rfl wc_X1_18 (fun U h => h.2.1) (N := 8) (by decide) rfl (Nat.le_of_ble_eq_true rfl) ⟨Nat.le_of_ble_eq_true rfl, Nat.le_of_ble_eq_true rfl⟩ dX1_init_17 (q := 20) rfl (fun x13 => ?_)
  refine n_putF hC hI fl_X1_20 pf_1_2 (i := 12) (by decide) rfl (Nat.le_of_ble_eq_true rfl) rfl rfl dX1_init_20 (q := 23) rfl ?_
  refine n_aload_n hC rfl dX1_init_23 (q := 24) rfl ?_
  refine n_bipush hC (v := 8) rfl dX1_init_24 (q := 26) rfl ?_
  refine n_newI hC (N := 8) (by decide) rfl (Nat.le_of_ble_eq_true rfl) ⟨Nat.le_of_ble_eq_true rfl, Nat.le_of_ble_eq_true rfl⟩ dX1_init_26 (q := 28) rfl (fun x14 => ?_)
  refine n_putF hC hI fl_X1_24 pf_1_3 (i := 12) (by decide) rfl (Nat.le_of_ble_eq_true rfl) rfl rfl dX1_init_28 (q := 31) rfl ?_
  refine n_iconst hC (v := 0) rfl dX1_init_31 (q := 32) rfl ?_
  refine n_istore_1 hC rfl dX1_init_32 (q := 33) rfl ?_
  refine n_iload_n hC rfl dX1_init_33 (q := 34) rfl ?_
  refine n_bipush hC (v := 8) rfl dX1_init_34 (q := 36) rfl ?_
  refine n_icmp_ge hC dX1_init_36 (t := 58) rfl (q := 39) rfl (fun h => absurd h (by decide)) (fun _ => ?_)
  refine n_aload_n hC rfl dX1_init_39 (q := 40) rfl ?_
  refine n_get hC fl_X1_20 (i := 12) (by decide) rfl rfl dX1_init_40 (q := 43) rfl ?_
  refine n_iload_n hC rfl dX1_init_43 (q := 44) rfl ?_
  refine n_new hC (ci := 0) (fs := [.int 0, .int 0, .int 0, .int 0, .int 0, .int 0, .int 0, .int 0]) tyX0 tyX0_ok inX0 wc_X1_18 wn_X0 wi_X0 rfl (fun j hj => by rcases (show j = 0 ∨ j = 1 ∨ j = 2 ∨ j = 3 ∨ j = 4 ∨ j = 5 ∨ j = 6 ∨ j = 7 by omega) with rfl | rfl | rfl | rfl | rfl | rfl | rfl | rfl <;> rfl) ⟨Nat.le_of_ble_eq_true rfl, Nat.le_of_ble_eq_true rfl⟩ dX1_init_44 (q := 47) rfl (fun x15 => ?_)
  refine n_dup hC rfl dX1_init_47 (q := 48) rfl ?_
  refine n_callN hC (i := 15) (fun U h => h.2.2.2.1) wI_X0_init wi_X0 wd_X0_init rfl (by decide +kernel) (fun sz => c_X0_init sz) ⟨Nat.le_of_ble_eq_true rfl, Nat.le_of_ble_eq_true rfl⟩ ⟨Nat.le_of_ble_eq_true rfl, Nat.le_of_ble_eq_true rfl⟩ (Nat.le_of_ble_eq_true rfl) dX1_init_48 (q := 51) rfl ?_
  rintro _ _ ⟨rfl, rfl⟩
  refine n_aast hC 2 (i1 := 13) (i2 := 15) (j := 0) (by decide) rfl rfl (by decide) rfl (ci := 0) rfl (vp_l (by decide)) rfl dX1_init_51 (q := 52) rfl ?_
  refine n_iinc_1 hC (v := 1) rfl (by decide) dX1_init_52 (q := 55) rfl ?_
  refine n_goto hC dX1_init_55 (t := 33) rfl ?_
  refine n_iload_n hC rfl dX1_init_33 (q := 34) rfl ?_
  refine n_bipush hC (v := 8) rfl dX1_init_34 (q := 36) rfl ?_
  refine n_icmp_ge hC dX1_init_36 (t := 58) rfl (q := 39) rfl (fun h => absurd h (by decide)) (fun _ => ?_)
  refine n_aload_n hC rfl dX1_init_39 (q := 40) rfl ?_
  refine n_get hC fl_X1_20 (i := 12) (by decide) rfl rfl dX1_init_40 (q := 43) rfl ?_
  refine n_iload_n hC rfl dX1_init_43 (q := 44) rfl ?_
  refine n_new hC (ci := 0) (fs := [.int 0, .int 0, .int 0, .int 0, .int 0, .int 0, .int 0, .int 0]) tyX0 tyX0_ok inX0 wc_X1_18 wn_X0 wi_X0 rfl (fun j hj => by rcases (show j = 0 ∨ j = 1 ∨ j = 2 ∨ j = 3 ∨ j = 4 ∨ j = 5 ∨ j = 6 ∨ j = 7 by omega) with rfl | rfl | rfl | rfl | rfl | rfl | rfl | rfl <;> rfl) ⟨Nat.le_of_ble_eq_true rfl, Nat.le_of_ble_eq_true rfl⟩ dX1_init_44 (q := 47) rfl (fun x16 => ?_)
  refine n_dup hC rfl dX1_init_47 (q := 48) rfl ?_
  refine n_callN hC (i := 16) (fun U h => h.2.2.2.1) wI_X0_init wi_X0 wd_X0_init rfl (by decide +kernel) (fun sz => c_X0_init sz) ⟨Nat.le_of_ble_eq_true rfl, Nat.le_of_ble_eq_true rfl⟩ ⟨Nat.le_of_ble_eq_true rfl, Nat.le_of_ble_eq_true rfl⟩ (Nat.le_of_ble_eq_true rfl) dX1_init_48 (q := 51) rfl ?_
  rintro _ _ ⟨rfl, rfl⟩
  refine n_aast hC 2 (i1 := 13) (i2 := 16) (j := 1) (by decide) rfl rfl (by decide) rfl (ci := 0) rfl (vp_l (by decide)) rfl dX1_init_51 (q := 52) rfl ?_
  refine n_iinc_1 hC (v := 2) rfl (by decide) dX1_init_52 (q := 55) rfl ?_
  refine n_goto hC dX1_init_55 (t := 33) rfl ?_
  refine n_iload_n hC rfl dX1_init_33 (q := 34) rfl ?_
  refine n_bipush hC (v := 8) rfl dX1_init_34 (q := 36) rfl ?_
  refine n_icmp_ge hC dX1_init_36 (t := 58) rfl (q := 39) rfl (fun h => absurd h (by decide)) (fun _ => ?_)
  refine n_aload_n hC rfl dX1_init_39 (q := 40) rfl ?_
  refine n_get hC fl_X1_20 (i := 12) (by decide) rfl rfl dX1_init_40 (q := 43) rfl ?_
  refine n_iload_n hC rfl dX1_init_43 (q := 44) rfl ?_
  refine n_new hC (ci := 0) (fs := [.int 0, .int 0, .int 0, .int 0, .int 0, .int 0, .int 0, .int 0]) tyX0 tyX0_ok inX0 wc_X1_18 wn_X0 wi_X0 rfl (fun j hj => by rcases (show j = 0 ∨ j = 1 ∨ j = 2 ∨ j = 3 ∨ j = 4 ∨ j = 5 ∨ j = 6 ∨ j = 7 by omega) with rfl | rfl | rfl | rfl | rfl | rfl | rfl | rfl <;> rfl) ⟨Nat.le_of_ble_eq_true rfl, Nat.le_of_ble_eq_true rfl⟩ dX1_init_44 (q := 47) rfl (fun x17 => ?_)
  refine n_dup hC rfl dX1_init_47 (q := 48) rfl ?_
  refine n_callN hC (i := 17) (fun U h => h.2.2.2.1) wI_X0_init wi_X0 wd_X0_init rfl (by decide +kernel) (fun sz => c_X0_init sz) ⟨Nat.le_of_ble_eq_true rfl, Nat.le_of_ble_eq_true rfl⟩ ⟨Nat.le_of_ble_eq_true rfl, Nat.le_of_ble_eq_true rfl⟩ (Nat.le_of_ble_eq_true rfl) dX1_init_48 (q := 51) rfl ?_
  rintro _ _ ⟨rfl, rfl⟩
  refine n_aast hC 2 (i1 := 13) (i2 := 17) (j := 2) (by decide) rfl rfl (by decide) rfl (ci := 0) rfl (vp_l (by decide)) rfl dX1_init_51 (q := 52) rfl ?_
  refine n_iinc_1 hC (v := 3) rfl (by decide) dX1_init_52 (q := 55) rfl ?_
  refine n_goto hC dX1_init_55 (t := 33) rfl ?_
  refine n_iload_n hC rfl dX1_init_33 (q := 34) rfl ?_
  refine n_bipush hC (v := 8) rfl dX1_init_34 (q := 36) rfl ?_
  refine n_icmp_ge hC dX1_init_36 (t := 58) rfl (q := 39) rfl (fun h => absurd h (by decide)) (fun _ => ?_)
  refine n_aload_n hC rfl dX1_init_39 (q := 40) rfl ?_
  refine n_get hC fl_X1_20 (i := 12) (by decide) rfl rfl dX1_init_40 (q := 43) rfl ?_
  refine n_iload_n hC rfl dX1_init_43 (q := 44) rfl ?_
  refine n_new hC (ci := 0) (fs := [.int 0, .int 0, .int 0, .int 0, .int 0, .int 0, .int 0, .int 0]) tyX0 tyX0_ok inX0 wc_X1_18 wn_X0 wi_X0 rfl (fun j hj => by rcases (show j = 0 ∨ j = 1 ∨ j = 2 ∨ j = 3 ∨ j = 4 ∨ j = 5 ∨ j = 6 ∨ j = 7 by omega) with rfl | rfl | rfl | rfl | rfl | rfl | rfl | rfl <;> rfl) ⟨Nat.le_of_ble_eq_true rfl, Nat.le_of_ble_eq_true rfl⟩ dX1_init_44 (q := 47) rfl (fun x18 => ?_)
  refine n_dup hC rfl dX1_init_47 (q := 48) rfl ?_
  refine n_callN hC (i := 18) (fun U h => h.2.2.2.1) wI_X0_init wi_X0 wd_X0_init rfl (by decide +kernel) (fun sz => c_X0_init sz) ⟨Nat.le_of_ble_eq_true rfl, Nat.le_of_ble_eq_true rfl⟩ ⟨Nat.le_of_ble_eq_true rfl, Nat.le_of_ble_eq_true rfl⟩ (Nat.le_of_ble_eq_true rfl) dX1_init_48 (q := 51) rfl ?_
  rintro _ _ ⟨rfl, rfl⟩
  refine n_aast hC 2 (i1 := 13) (i2 := 18) (j := 3) (by decide) rfl rfl (by decide) rfl (ci := 0) rfl (vp_l (by decide)) rfl dX1_init_51 (q := 52) rfl ?_
  refine n_iinc_1 hC (v := 4) rfl (by decide) dX1_init_52 (q := 55) rfl ?_
  refine n_goto hC dX1_init_55 (t := 33) rfl ?_
  refine n_iload_n hC rfl dX1_init_33 (q := 34) rfl ?_
  refine n_bipush hC (v := 8) rfl dX1_init_34 (q := 36) rfl ?_
  refine n_icmp_ge hC dX1_init_36 (t := 58) rfl (q := 39) rfl (fun h => absurd h (by decide)) (fun _ => ?_)
  refine n_aload_n hC rfl dX1_init_39 (q := 40) rfl ?_
  refine n_get hC fl_X1_20 (i := 12) (by decide) rfl rfl dX1_init_40 (q := 43) rfl ?_
  refine n_iload_n hC rfl dX1_init_43 (q := 44) rfl ?_
  refine n_new hC (ci := 0) (fs := [.int 0, .int 0, .int 0, .int 0, .int 0, .int 0, .int 0, .int 0]) tyX0 tyX0_ok inX0 wc_X1_18 wn_X0 wi_X0 rfl (fun j hj => by rcases (show j = 0 ∨ j = 1 ∨ j = 2 ∨ j = 3 ∨ j = 4 ∨ j = 5 ∨ j = 6 ∨ j = 7 by omega) with rfl | rfl | rfl | rfl | rfl | rfl | rfl | rfl <;> rfl) ⟨Nat.le_of_ble_eq_true rfl, Nat.le_of_ble_eq_true rfl⟩ dX1_init_44 (q := 47) rfl (fun x19 => ?_)
  refine n_dup hC rfl dX1_init_47 (q := 48) rfl ?_
  refine n_callN hC (i := 19) (fun U h => h.2.2.2.1) wI_X0_init wi_X0 wd_X0_init rfl (by decide +kernel) (fun sz => c_X0_init sz) ⟨Nat.le_of_ble_eq_true rfl, Nat.le_of_ble_eq_true rfl⟩ ⟨Nat.le_of_ble_eq_true rfl, Nat.le_of_ble_eq_true rfl⟩ (Nat.le_of_ble_eq_true rfl) dX1_init_48 (q := 51) rfl ?_
  rintro _ _ ⟨rfl, rfl⟩
  refine n_aast hC 2 (i1 := 13) (i2 := 19) (j := 4) (by decide) rfl rfl (by decide) rfl (ci := 0) rfl (vp_l (by decide)) rfl dX1_init_51 (q := 52) rfl ?_
  refine n_iinc_1 hC (v := 5) rfl (by decide) dX1_init_52 (q := 55) rfl ?_
  refine n_goto hC dX1_init_55 (t := 33) rfl ?_
  refine n_iload_n hC rfl dX1_init_33 (q := 34) rfl ?_
  refine n_bipush hC (v := 8) rfl dX1_init_34 (q := 36) rfl ?_
  refine n_icmp_ge hC dX1_init_36 (t := 58) rfl (q := 39) rfl (fun h => absurd h (by decide)) (fun _ => ?_)
  refine n_aload_n hC rfl dX1_init_39 (q := 40) rfl ?_
  refine n_get hC fl_X1_20 (i := 12) (by decide) rfl rfl dX1_init_40 (q := 43) rfl ?_
  refine n_iload_n hC rfl dX1_init_43 (q := 44) rfl ?_
  refine n_new hC (ci := 0) (fs := [.int 0, .int 0, .int 0, .int 0, .int 0, .int 0, .int 0, .int 0]) tyX0 tyX0_ok inX0 wc_X1_18 wn_X0 wi_X0 rfl (fun j hj => by rcases (show j = 0 ∨ j = 1 ∨ j = 2 ∨ j = 3 ∨ j = 4 ∨ j = 5 ∨ j = 6 ∨ j = 7 by omega) with rfl | rfl | rfl | rfl | rfl | rfl | rfl | rfl <;> rfl) ⟨Nat.le_of_ble_eq_true rfl, Nat.le_of_ble_eq_true rfl⟩ dX1_init_44 (q := 47) rfl (fun x20 => ?_)
  refine n_dup hC rfl dX1_init_47 (q := 48) rfl ?_
  refine n_callN hC (i := 20) (fun U h => h.2.2.2.1) wI_X0_init wi_X0 wd_X0_init rfl (by decide +kernel) (fun sz => c_X0_init sz) ⟨Nat.le_of_ble_eq_true rfl, Nat.le_of_ble_eq_true rfl⟩ ⟨Nat.le_of_ble_eq_true rfl, Nat.le_of_ble_eq_true rfl⟩ (Nat.le_of_ble_eq_true rfl) dX1_init_48 (q := 51) rfl ?_
  rintro _ _ ⟨rfl, rfl⟩
  refine n_aast hC 2 (i1 := 13) (i2 := 20) (j := 5) (by decide) rfl rfl (by decide) rfl (ci := 0) rfl (vp_l (by decide)) rfl dX1_init_51 (q := 52) rfl ?_
  refine n_iinc_1 hC (v := 6) rfl (by decide) dX1_init_52 (q := 55) rfl ?_
  refine n_goto hC dX1_init_55 (t := 33) rfl ?_
  refine n_iload_n hC rfl dX1_init_33 (q := 34) rfl ?_
  refine n_bipush hC (v := 8) rfl dX1_init_34 (q := 36) rfl ?_
  refine n_icmp_ge hC dX1_init_36 (t := 58) rfl (q := 39) rfl (fun h => absurd h (by decide)) (fun _ => ?_)
  refine n_aload_n hC rfl dX1_init_39 (q := 40) rfl ?_
  refine n_get hC fl_X1_20 (i := 12) (by decide) rfl rfl dX1_init_40 (q := 43) rfl ?_
  refine n_iload_n hC rfl dX1_init_43 (q := 44) rfl ?_
  refine n_new hC (ci := 0) (fs := [.int 0, .int 0, .int 0, .int 0, .int 0, .int 0, .int 0, .int 0]) tyX0 tyX0_ok inX0 wc_X1_18 wn_X0 wi_X0 rfl (fun j hj => by rcases (show j = 0 ∨ j = 1 ∨ j = 2 ∨ j = 3 ∨ j = 4 ∨ j = 5 ∨ j = 6 ∨ j = 7 by omega) with rfl | rfl | rfl | rfl | rfl | rfl | rfl | rfl <;> rfl) ⟨Nat.le_of_ble_eq_true rfl, Nat.le_of_ble_eq_true rfl⟩ dX1_init_44 (q := 47) rfl (fun x21 => ?_)
  refine n_dup hC rfl dX1_init_47 (q := 48) rfl ?_
  refine n_callN hC (i := 21) (fun U h => h.2.2.2.1) wI_X0_init wi_X0 wd_X0_init rfl (by decide +kernel) (fun sz => c_X0_init sz) ⟨Nat.le_of_ble_eq_true rfl, Nat.le_of_ble_eq_true rfl⟩ ⟨Nat.le_of_ble_eq_true rfl, Nat.le_of_ble_eq_true rfl⟩ (Nat.le_of_ble_eq_true rfl) dX1_init_48 (q := 51) rfl ?_
  rintro _ _ ⟨rfl, rfl⟩
  refine n_aast hC 2 (i1 := 13) (i2 := 21) (j := 6) (by decide) rfl rfl (by decide) rfl (ci := 0) rfl (vp_l (by decide)) rfl dX1_init_51 (q := 52) rfl ?_
  refine n_iinc_1 hC (v := 7) rfl (by decide) dX1_init_52 (q := 55) rfl ?_
  refine n_goto hC dX1_init_55 (t := 33) rfl ?_
  refine n_iload_n hC rfl dX1_init_33 (q := 34) rfl ?_
  refine n_bipush hC (v := 8) rfl dX1_init_34 (q := 36) rfl ?_
  refine n_icmp_ge hC dX1_init_36 (t := 58) rfl (q := 39) rfl (fun h => absurd h (by decide)) (fun _ => ?_)
  refine n_aload_n hC rfl dX1_init_39 (q := 40) rfl ?_
  refine n_get hC fl_X1_20 (i := 12) (by decide) rfl rfl dX1_init_40 (q := 43) rfl ?_
  refine n_iload_n hC rfl dX1_init_43 (q := 44) rfl ?_
  refine n_new hC (ci := 0) (fs := [.int 0, .int 0, .int 0, .int 0, .int 0, .int 0, .int 0, .int 0]) tyX0 tyX0_ok inX0 wc_X1_18 wn_X0 wi_X0 rfl (fun j hj => by rcases (show j = 0 ∨ j = 1 ∨ j = 2 ∨ j = 3 ∨ j = 4 ∨ j = 5 ∨ j = 6 ∨ j = 7 by omega) with rfl | rfl | rfl | rfl | rfl | rfl | rfl | rfl <;> rfl) ⟨Nat.le_of_ble_eq_true rfl, Nat.le_of_ble_eq_true rfl⟩ dX1_init_44 (q := 47) rfl (fun x22 => ?_)
  refine n_dup hC rfl dX1_init_47 (q := 48) rfl ?_
  refine n_callN hC (i := 22) (fun U h => h.2.2.2.1) wI_X0_init wi_X0 wd_X0_init rfl (by decide +kernel) (fun sz => c_X0_init sz) ⟨Nat.le_of_ble_eq_true rfl, Nat.le_of_ble_eq_true rfl⟩ ⟨Nat.le_of_ble_eq_true rfl, Nat.le_of_ble_eq_true rfl⟩ (Nat.le_of_ble_eq_true rfl) dX1_init_48 (q := 51) rfl ?_
  rintro _ _ ⟨rfl, rfl⟩
  refine n_aast hC 2 (i1 := 13) (i2 := 22) (j := 7) (by decide) rfl rfl (by decide) rfl (ci := 0) rfl (vp_l (by decide)) rfl dX1_init_51 (q := 52) rfl ?_
  refine n_iinc_1 hC (v := 8) rfl (by decide) dX1_init_52 (q := 55) rfl ?_
  refine n_goto hC dX1_init_55 (t := 33) rfl ?_
  refine n_iload_n hC rfl dX1_init_33 (q := 34) rfl ?_
  refine n_bipush hC (v := 8) rfl dX1_init_34 (q := 36) rfl ?_
  refine n_icmp_ge hC dX1_init_36 (t := 58) rfl (q := 39) rfl (fun _ => ?_) (fun h => absurd (by decide) h)
  exact n_eq (a' := xA a 13 (va_up (va_up (va_up (va_up (va_up (va_up (va_up (va_up (va_up (va_up (fun _ => 0) 0 x13) 1 x14) 2 x15) 3 x16) 4 x17) 5 x18) 6 x19) 7 x20) 8 x21) 9 x22)) (f' := xF (va_up f 12 (qC0 (va_up (va_up (va_up (va_up (va_up (va_up (va_up (va_up (va_up (va_up (fun _ => 0) 0 x13) 1 x14) 2 x15) 3 x16) 4 x17) 5 x18) 6 x19) 7 x20) 8 x21) 9 x22))) 13 (qT X (va_up (va_up (va_up (va_up (va_up (va_up (va_up (va_up (va_up (va_up (fun _ => 0) 0 x13) 1 x14) 2 x15) 3 x16) 4 x17) 5 x18) 6 x19) 7 x20) 8 x21) 9 x22))) (gn_ext (fun k hk => match k, hk with | 0, _ => ⟨rfl, rfl⟩ | 1, _ => ⟨rfl, rfl⟩ | 2, _ => ⟨rfl, rfl⟩ | 3, _ => ⟨rfl, rfl⟩ | 4, _ => ⟨rfl, rfl⟩ | 5, _ => ⟨rfl, rfl⟩ | 6, _ => ⟨rfl, rfl⟩ | 7, _ => ⟨rfl, rfl⟩ | 8, _ => ⟨rfl, rfl⟩ | 9, _ => ⟨rfl, rfl⟩ | 10, _ => ⟨rfl, rfl⟩ | 11, _ => ⟨rfl, rfl⟩ | 12, _ => ⟨rfl, rfl⟩ | 13, _ => ⟨rfl, rfl⟩ | 14, _ => ⟨rfl, rfl⟩ | 15, _ => ⟨rfl, rfl⟩ | 16, _ => ⟨rfl, rfl⟩ | 17, _ => ⟨rfl, rfl⟩ | 18, _ => ⟨rfl, rfl⟩ | 19, _ => ⟨rfl, rfl⟩ | 20, _ => ⟨rfl, rfl⟩ | 21, _ => ⟨rfl, rfl⟩ | 22, _ => ⟨rfl, rfl⟩ | k + 23, h => absurd h (by omega))) (hE _ _ _ _ ⟨(va_up (va_up (va_up (va_up (va_up (va_up (va_up (va_up (va_up (va_up (fun _ => 0) 0 x13) 1 x14) 2 x15) 3 x16) 4 x17) 5 x18) 6 x19) 7 x20) 8 x21) 9 x22), rfl, rfl⟩ dX1_init_58)

set_option maxHeartbeats 4000000 in
set_option maxRecDepth 100000 in
theorem c_X1_init_24 {l : Launch} {X : Gx} {a : Nat → Nat} {f : Hp} (hf : f 23 = .inr (1, [.int 0, .int 0, .null, .null])) (sz : Nat) : Cn l X yX1_init cX1_init 2 2 50 a 24 f 23 sz 10 80 34 (fun a' f' => ∃ b, a' = xA a 24 b ∧ f' = xF (va_up f 23 (qC0 b)) 24 (qT X b)) := by
  refine ct_n (own := RX1) (lv := [some (.ref (a 23)), none]) (by decide) rfl rfl (Nat.le_of_ble_eq_true rfl) (Nat.le_of_ble_eq_true rfl) rfl (fun A C hC hI hE => ?_)
  refine n_self hf ?_
  refine n_aload_n hC rfl dX1_init_0 (q := 1) rfl ?_
  refine n_obj hC wm_X1_3 ⟨Nat.le_of_ble_eq_true rfl, Nat.le_of_ble_eq_true rfl⟩ dX1_init_1 (q := 4) rfl ?_
  refine n_aload_n hC rfl dX1_init_4 (q := 5) rfl ?_
  refine n_iconst hC (v := 0) rfl dX1_init_5 (q := 6) rfl ?_
  refine n_put hC fl_X1_9 pt_1_0 (i := 23) (by decide) rfl (Nat.le_of_ble_eq_true rfl) rfl rfl dX1_init_6 (q := 9) rfl ?_
  refine n_aload_n hC rfl dX1_init_9 (q := 10) rfl ?_
  refine n_iconst hC (v := 0) rfl dX1_init_10 (q := 11) rfl ?_
  refine n_put hC fl_X1_15 pt_1_1 (i := 23) (by decide) rfl (Nat.le_of_ble_eq_true rfl) rfl rfl dX1_init_11 (q := 14) rfl ?_
  refine n_aload_n hC rfl dX1_init_14 (q := 15) rfl ?_
  refine n_bipush hC (v := 8) rfl dX1_init_15 (q := 17) rfl ?_
  refine n_anew hC 2 rfl wc_X1_18 (fun U h => h.2.1) (N := 8) (by decide) rfl (Nat.le_of_ble_eq_true rfl) ⟨Nat.le_of_ble_eq_true rfl, Nat.le_of_ble_eq_true rfl⟩ dX1_init_17 (q := 20) rfl (fun x24 => ?_)
  refine n_putF hC hI fl_X1_20 pf_1_2 (i := 23) (by decide) rfl (Nat.le_of_ble_eq_true rfl) rfl rfl dX1_init_20 (q := 23) rfl ?_
  refine n_aload_n hC rfl dX1_init_23 (q := 24) rfl ?_
  refine n_bipush hC (v := 8) rfl dX1_init_24 (q := 26) rfl ?_
  refine n_newI hC (N := 8) (by decide) rfl (Nat.le_of_ble_eq_true rfl) ⟨Nat.le_of_ble_eq_true rfl, Nat.le_of_ble_eq_true rfl⟩ dX1_init_26 (q := 28) rfl (fun x25 => ?_)
  refine n_putF hC hI fl_X1_24 pf_1_3 (i := 23) (by decide) rfl (Nat.le_of_ble_eq_true rfl) rfl rfl dX1_init_28 (q := 31) rfl ?_
  refine n_iconst hC (v := 0) rfl dX1_init_31 (q := 32) rfl ?_
  refine n_istore_1 hC rfl dX1_init_32 (q := 33) rfl ?_
  refine n_iload_n hC rfl dX1_init_33 (q := 34) rfl ?_
  refine n_bipush hC (v := 8) rfl dX1_init_34 (q := 36) rfl ?_
  refine n_icmp_ge hC dX1_init_36 (t := 58) rfl (q := 39) rfl (fun h => absurd h (by decide)) (fun _ => ?_)
  refine n_aload_n hC rfl dX1_init_39 (q := 40) rfl ?_
  refine n_get hC fl_X1_20 (i := 23) (by decide) rfl rfl dX1_init_40 (q := 43) rfl ?_
  refine n_iload_n hC rfl dX1_init_43 (q := 44) rfl ?_
  refine n_new hC (ci := 0) (fs := [.int 0, .int 0, .int 0, .int 0, .int 0, .int 0, .int 0, .int 0]) tyX0 tyX0_ok inX0 wc_X1_18 wn_X0 wi_X0 rfl (fun j hj => by rcases (show j = 0 ∨ j = 1 ∨ j = 2 ∨ j = 3 ∨ j = 4 ∨ j = 5 ∨ j = 6 ∨ j = 7 by omega) with rfl | rfl | rfl | rfl | rfl | rfl | rfl | rfl <;> rfl) ⟨Nat.le_of_ble_eq_true rfl, Nat.le_of_ble_eq_true rfl⟩ dX1_init_44 (q := 47) rfl (fun x26 => ?_)
  refine n_dup hC rfl dX1_init_47 (q := 48) rfl ?_
  refine n_callN hC (i := 26) (fun U h => h.2.2.2.1) wI_X0_init wi_X0 wd_X0_init rfl (by decide +kernel) (fun sz => c_X0_init sz) ⟨Nat.le_of_ble_eq_true rfl, Nat.le_of_ble_eq_true rfl⟩ ⟨Nat.le_of_ble_eq_true rfl, Nat.le_of_ble_eq_true rfl⟩ (Nat.le_of_ble_eq_true rfl) dX1_init_48 (q := 51) rfl ?_
  rintro _ _ ⟨rfl, rfl⟩
  refine n_aast hC 2 (i1 := 24) (i2 := 26) (j := 0) (by decide) rfl rfl (by decide) rfl (ci := 0) rfl (vp_l (by decide)) rfl dX1_init_51 (q := 52) rfl ?_
  refine n_iinc_1 hC (v := 1) rfl (by decide) dX1_init_52 (q := 55) rfl ?_
  refine n_goto hC dX1_init_55 (t := 33) rfl ?_
  refine n_iload_n hC rfl dX1_init_33 (q := 34) rfl ?_
  refine n_bipush hC (v := 8) rfl dX1_init_34 (q := 36) rfl ?_
  refine n_icmp_ge hC dX1_init_36 (t := 58) rfl (q := 39) rfl (fun h => absurd h (by decide)) (fun _ => ?_)
  refine n_aload_n hC rfl dX1_init_39 (q := 40) rfl ?_
  refine n_get hC fl_X1_20 (i := 23) (by decide) rfl rfl dX1_init_40 (q := 43) rfl ?_
  refine n_iload_n hC rfl dX1_init_43 (q := 44) rfl ?_
  refine n_new hC (ci := 0) (fs := [.int 0, .int 0, .int 0, .int 0, .int 0, .int 0, .int 0, .int 0]) tyX0 tyX0_ok inX0 wc_X1_18 wn_X0 wi_X0 rfl (fun j hj => by rcases (show j = 0 ∨ j = 1 ∨ j = 2 ∨ j = 3 ∨ j = 4 ∨ j = 5 ∨ j = 6 ∨ j = 7 by omega) with rfl | rfl | rfl | rfl | rfl | rfl | rfl | rfl <;> rfl) ⟨Nat.le_of_ble_eq_true rfl, Nat.le_of_ble_eq_true rfl⟩ dX1_init_44 (q := 47) rfl (fun x27 => ?_)
  refine n_dup hC rfl dX1_init_47 (q := 48) rfl ?_
  refine n_callN hC (i := 27) (fun U h => h.2.2.2.1) wI_X0_init wi_X0 wd_X0_init rfl (by decide +kernel) (fun sz => c_X0_init sz) ⟨Nat.le_of_ble_eq_true rfl, Nat.le_of_ble_eq_true rfl⟩ ⟨Nat.le_of_ble_eq_true rfl, Nat.le_of_ble_eq_true rfl⟩ (Nat.le_of_ble_eq_true rfl) dX1_init_48 (q := 51) rfl ?_
  rintro _ _ ⟨rfl, rfl⟩
  refine n_aast hC 2 (i1 := 24) (i2 := 27) (j := 1) (by decide) rfl rfl (by decide) rfl (ci := 0) rfl (vp_l (by decide)) rfl dX1_init_51 (q := 52) rfl ?_
  refine n_iinc_1 hC (v := 2) rfl (by decide) dX1_init_52 (q := 55) rfl ?_
  refine n_goto hC dX1_init_55 (t := 33) rfl ?_
  refine n_iload_n hC rfl dX1_init_33 (q := 34) rfl ?_
  refine n_bipush hC (v := 8) rfl dX1_init_34 (q := 36) rfl ?_
  refine n_icmp_ge hC dX1_init_36 (t := 58) rfl (q := 39) rfl (fun h => absurd h (by decide)) (fun _ => ?_)
  refine n_aload_n hC rfl dX1_init_39 (q := 40) rfl ?_
  refine n_get hC fl_X1_20 (i := 23) (by decide) rfl rfl dX1_init_40 (q := 43) rfl ?_
  refine n_iload_n hC rfl dX1_init_43 (q := 44) rfl ?_
  refine n_new hC (ci := 0) (fs := [.int 0, .int 0, .int 0, .int 0, .int 0, .int 0, .int 0, .int 0]) tyX0 tyX0_ok inX0 wc_X1_18 wn_X0 wi_X0 rfl (fun j hj => by rcases (show j = 0 ∨ j = 1 ∨ j = 2 ∨ j = 3 ∨ j = 4 ∨ j = 5 ∨ j = 6 ∨ j = 7 by omega) with rfl | rfl | rfl | rfl | rfl | rfl | rfl | rfl <;> rfl) ⟨Nat.le_of_ble_eq_true rfl, Nat.le_of_ble_eq_true rfl⟩ dX1_init_44 (q := 47) rfl (fun x28 => ?_)
  refine n_dup hC rfl dX1_init_47 (q := 48) rfl ?_
  refine n_callN hC (i := 28) (fun U h => h.2.2.2.1) wI_X0_init wi_X0 wd_X0_init rfl (by decide +kernel) (fun sz => c_X0_init sz) ⟨Nat.le_of_ble_eq_true rfl, Nat.le_of_ble_eq_true rfl⟩ ⟨Nat.le_of_ble_eq_true rfl, Nat.le_of_ble_eq_true rfl⟩ (Nat.le_of_ble_eq_true rfl) dX1_init_48 (q := 51) rfl ?_
  rintro _ _ ⟨rfl, rfl⟩
  refine n_aast hC 2 (i1 := 24) (i2 := 28) (j := 2) (by decide) rfl rfl (by decide) rfl (ci := 0) rfl (vp_l (by decide)) rfl dX1_init_51 (q := 52) rfl ?_
  refine n_iinc_1 hC (v := 3) rfl (by decide) dX1_init_52 (q := 55) rfl ?_
  refine n_goto hC dX1_init_55 (t := 33) rfl ?_
  refine n_iload_n hC rfl dX1_init_33 (q := 34) rfl ?_
  refine n_bipush hC (v := 8) rfl dX1_init_34 (q := 36) rfl ?_
  refine n_icmp_ge hC dX1_init_36 (t := 58) rfl (q := 39) rfl (fun h => absurd h (by decide)) (fun _ => ?_)
  refine n_aload_n hC rfl dX1_init_39 (q := 40) rfl ?_
  refine n_get hC fl_X1_20 (i := 23) (by decide) rfl rfl dX1_init_40 (q := 43) rfl ?_
  refine n_iload_n hC rfl dX1_init_43 (q := 44) rfl ?_
  refine n_new hC (ci := 0) (fs := [.int 0, .int 0, .int 0, .int 0, .int 0, .int 0, .int 0, .int 0]) tyX0 tyX0_ok inX0 wc_X1_18 wn_X0 wi_X0 rfl (fun j hj => by rcases (show j = 0 ∨ j = 1 ∨ j = 2 ∨ j = 3 ∨ j = 4 ∨ j = 5 ∨ j = 6 ∨ j = 7 by omega) with rfl | rfl | rfl | rfl | rfl | rfl | rfl | rfl <;> rfl) ⟨Nat.le_of_ble_eq_true rfl, Nat.le_of_ble_eq_true rfl⟩ dX1_init_44 (q := 47) rfl (fun x29 => ?_)
  refine n_dup hC rfl dX1_init_47 (q := 48) rfl ?_
  refine n_callN hC (i := 29) (fun U h => h.2.2.2.1) wI_X0_init wi_X0 wd_X0_init rfl (by decide +kernel) (fun sz => c_X0_init sz) ⟨Nat.le_of_ble_eq_true rfl, Nat.le_of_ble_eq_true rfl⟩ ⟨Nat.le_of_ble_eq_true rfl, Nat.le_of_ble_eq_true rfl⟩ (Nat.le_of_ble_eq_true rfl) dX1_init_48 (q := 51) rfl ?_
  rintro _ _ ⟨rfl, rfl⟩
  refine n_aast hC 2 (i1 := 24) (i2 := 29) (j := 3) (by decide) rfl rfl (by decide) rfl (ci := 0) rfl (vp_l (by decide)) rfl dX1_init_51 (q := 52) rfl ?_
  refine n_iinc_1 hC (v := 4) rfl (by decide) dX1_init_52 (q := 55) rfl ?_
  refine n_goto hC dX1_init_55 (t := 33) rfl ?_
  refine n_iload_n hC rfl dX1_init_33 (q := 34) rfl ?_
  refine n_bipush hC (v := 8) rfl dX1_init_34 (q := 36) rfl ?_
  refine n_icmp_ge hC dX1_init_36 (t := 58) rfl (q := 39) rfl (fun h => absurd h (by decide)) (fun _ => ?_)
  refine n_aload_n hC rfl dX1_init_39 (q := 40) rfl ?_
  refine n_get hC fl_X1_20 (i := 23) (by decide) rfl rfl dX1_init_40 (q := 43) rfl ?_
  refine n_iload_n hC rfl dX1_init_43 (q := 44) rfl ?_
  refine n_new hC (ci := 0) (fs := [.int 0, .int 0, .int 0, .int 0, .int 0, .int 0, .int 0, .int 0]) tyX0 tyX0_ok inX0 wc_X1_18 wn_X0 wi_X0 rfl (fun j hj => by rcases (show j = 0 ∨ j = 1 ∨ j = 2 ∨ j = 3 ∨ j = 4 ∨ j = 5 ∨ j = 6 ∨ j = 7 by omega) with rfl | rfl | rfl | rfl | rfl | rfl | rfl | rfl <;> rfl) ⟨Nat.le_of_ble_eq_true rfl, Nat.le_of_ble_eq_true rfl⟩ dX1_init_44 (q := 47) rfl (fun x30 => ?_)
  refine n_dup hC rfl dX1_init_47 (q := 48) rfl ?_
  refine n_callN hC (i := 30) (fun U h => h.2.2.2.1) wI_X0_init wi_X0 wd_X0_init rfl (by decide +kernel) (fun sz => c_X0_init sz) ⟨Nat.le_of_ble_eq_true rfl, Nat.le_of_ble_eq_true rfl⟩ ⟨Nat.le_of_ble_eq_true rfl, Nat.le_of_ble_eq_true rfl⟩ (Nat.le_of_ble_eq_true rfl) dX1_init_48 (q := 51) rfl ?_
  rintro _ _ ⟨rfl, rfl⟩
  refine n_aast hC 2 (i1 := 24) (i2 := 30) (j := 4) (by decide) rfl rfl (by decide) rfl (ci := 0) rfl (vp_l (by decide)) rfl dX1_init_51 (q := 52) rfl ?_
  refine n_iinc_1 hC (v := 5) rfl (by decide) dX1_init_52 (q := 55) rfl ?_
  refine n_goto hC dX1_init_55 (t := 33) rfl ?_
  refine n_iload_n hC rfl dX1_init_33 (q := 34) rfl ?_
  refine n_bipush hC (v := 8) rfl dX1_init_34 (q := 36) rfl ?_
  refine n_icmp_ge hC dX1_init_36 (t := 58) rfl (q := 39) rfl (fun h => absurd h (by decide)) (fun _ => ?_)
  refine n_aload_n hC rfl dX1_init_39 (q := 40) rfl ?_
  refine n_get hC fl_X1_20 (i := 23) (by decide) rfl rfl dX1_init_40 (q := 43) rfl ?_
  refine n_iload_n hC rfl dX1_init_43 (q := 44) rfl ?_
  refine n_new hC (ci := 0) (fs := [.int 0, .int 0, .int 0, .int 0, .int 0, .int 0, .int 0, .int 0]) tyX0 tyX0_ok inX0 wc_X1_18 wn_X0 wi_X0 rfl (fun j hj => by rcases (show j = 0 ∨ j = 1 ∨ j = 2 ∨ j = 3 ∨ j = 4 ∨ j = 5 ∨ j = 6 ∨ j = 7 by omega) with rfl | rfl | rfl | rfl | rfl | rfl | rfl | rfl <;> rfl) ⟨Nat.le_of_ble_eq_true rfl, Nat.le_of_ble_eq_true rfl⟩ dX1_init_44 (q := 47) rfl (fun x31 => ?_)
  refine n_dup hC rfl dX1_init_47 (q := 48) rfl ?_
  refine n_callN hC (i := 31) (fun U h => h.2.2.2.1) wI_X0_init wi_X0 wd_X0_init rfl (by decide +kernel) (fun sz => c_X0_init sz) ⟨Nat.le_of_ble_eq_true rfl, Nat.le_of_ble_eq_true rfl⟩ ⟨Nat.le_of_ble_eq_true rfl, Nat.le_of_ble_eq_true rfl⟩ (Nat.le_of_ble_eq_true rfl) dX1_init_48 (q := 51) rfl ?_
  rintro _ _ ⟨rfl, rfl⟩
  refine n_aast hC 2 (i1 := 24) (i2 := 31) (j := 5) (by decide) rfl rfl (by decide) rfl (ci := 0) rfl (vp_l (by decide)) rfl dX1_init_51 (q := 52) rfl ?_
  refine n_iinc_1 hC (v := 6) rfl (by decide) dX1_init_52 (q := 55) rfl ?_
  refine n_goto hC dX1_init_55 (t := 33) rfl ?_
  refine n_iload_n hC rfl dX1_init_33 (q := 34) rfl ?_
  refine n_bipush hC (v := 8) rfl dX1_init_34 (q := 36) rfl ?_
  refine n_icmp_ge hC dX1_init_36 (t := 58) rfl (q := 39) rfl (fun h => absurd h (by decide)) (fun _ => ?_)
  refine n_aload_n hC rfl dX1_init_39 (q := 40) rfl ?_
  refine n_get hC fl_X1_20 (i := 23) (by decide) rfl rfl dX1_init_40 (q := 43) rfl ?_
  refine n_iload_n hC rfl dX1_init_43 (q := 44) rfl ?_
  refine n_new hC (ci := 0) (fs := [.int 0, .int 0, .int 0, .int 0, .int 0, .int 0, .int 0, .int 0]) tyX0 tyX0_ok inX0 wc_X1_18 wn_X0 wi_X0 rfl (fun j hj => by rcases (show j = 0 ∨ j = 1 ∨ j = 2 ∨ j = 3 ∨ j = 4 ∨ j = 5 ∨ j = 6 ∨ j = 7 by omega) with rfl | rfl | rfl | rfl | rfl | rfl | rfl | rfl <;> rfl) ⟨Nat.le_of_ble_eq_true rfl, Nat.le_of_ble_eq_true rfl⟩ dX1_init_44 (q := 47) rfl (fun x32 => ?_)
  refine n_dup hC rfl dX1_init_47 (q := 48) rfl ?_
  refine n_callN hC (i := 32) (fun U h => h.2.2.2.1) wI_X0_init wi_X0 wd_X0_init rfl (by decide +kernel) (fun sz => c_X0_init sz) ⟨Nat.le_of_ble_eq_true rfl, Nat.le_of_ble_eq_true rfl⟩ ⟨Nat.le_of_ble_eq_true rfl, Nat.le_of_ble_eq_true rfl⟩ (Nat.le_of_ble_eq_true rfl) dX1_init_48 (q := 51) rfl ?_
  rintro _ _ ⟨rfl, rfl⟩
  refine n_aast hC 2 (i1 := 24) (i2 := 32) (j := 6) (by decide) rfl rfl (by decide) rfl (ci := 0) rfl (vp_l (by decide)) rfl dX1_init_51 (q := 52) rfl ?_
  refine n_iinc_1 hC (v := 7) rfl (by decide) dX1_init_52 (q := 55) rfl ?_
  refine n_goto hC dX1_init_55 (t := 33) rfl ?_
  refine n_iload_n hC rfl dX1_init_33 (q := 34) rfl ?_
  refine n_bipush hC (v := 8) rfl dX1_init_34 (q := 36) rfl ?_
  refine n_icmp_ge hC dX1_init_36 (t := 58) rfl (q := 39) rfl (fun h => absurd h (by decide)) (fun _ => ?_)
  refine n_aload_n hC rfl dX1_init_39 (q := 40) rfl ?_
  refine n_get hC fl_X1_20 (i := 23) (by decide) rfl rfl dX1_init_40 (q := 43) rfl ?_
  refine n_iload_n hC rfl dX1_init_43 (q := 44) rfl ?_
  refine n_new hC (ci := 0) (fs := [.int 0, .int 0, .int 0, .int 0, .int 0, .int 0, .int 0, .int 0]) tyX0 tyX0_ok inX0 wc_X1_18 wn_X0 wi_X0 rfl (fun j hj => by rcases (show j = 0 ∨ j = 1 ∨ j = 2 ∨ j = 3 ∨ j = 4 ∨ j = 5 ∨ j = 6 ∨ j = 7 by omega) with rfl | rfl | rfl | rfl | rfl | rfl | rfl | rfl <;> rfl) ⟨Nat.le_of_ble_eq_true rfl, Nat.le_of_ble_eq_true rfl⟩ dX1_init_44 (q := 47) rfl (fun x33 => ?_)
  refine n_dup hC rfl dX1_init_47 (q := 48) rfl ?_
  refine n_callN hC (i := 33) (fun U h => h.2.2.2.1) wI_X0_init wi_X0 wd_X0_init rfl (by decide +kernel) (fun sz => c_X0_init sz) ⟨Nat.le_of_ble_eq_true rfl, Nat.le_of_ble_eq_true rfl⟩ ⟨Nat.le_of_ble_eq_true rfl, Nat.le_of_ble_eq_true rfl⟩ (Nat.le_of_ble_eq_true rfl) dX1_init_48 (q := 51) rfl ?_
  rintro _ _ ⟨rfl, rfl⟩
  refine n_aast hC 2 (i1 := 24) (i2 := 33) (j := 7) (by decide) rfl rfl (by decide) rfl (ci := 0) rfl (vp_l (by decide)) rfl dX1_init_51 (q := 52) rfl ?_
  refine n_iinc_1 hC (v := 8) rfl (by decide) dX1_init_52 (q := 55) rfl ?_
  refine n_goto hC dX1_init_55 (t := 33) rfl ?_
  refine n_iload_n hC rfl dX1_init_33 (q := 34) rfl ?_
  refine n_bipush hC (v := 8) rfl dX1_init_34 (q := 36) rfl ?_
  refine n_icmp_ge hC dX1_init_36 (t := 58) rfl (q := 39) rfl (fun _ => ?_) (fun h => absurd (by decide) h)
  exact n_eq (a' := xA a 24 (va_up (va_up (va_up (va_up (va_up (va_up (va_up (va_up (va_up (va_up (fun _ => 0) 0 x24) 1 x25) 2 x26) 3 x27) 4 x28) 5 x29) 6 x30) 7 x31) 8 x32) 9 x33)) (f' := xF (va_up f 23 (qC0 (va_up (va_up (va_up (va_up (va_up (va_up (va_up (va_up (va_up (va_up (fun _ => 0) 0 x24) 1 x25) 2 x26) 3 x27) 4 x28) 5 x29) 6 x30) 7 x31) 8 x32) 9 x33))) 24 (qT X (va_up (va_up (va_up (va_up (va_up (va_up (va_up (va_up (va_up (va_up (fun _ => 0) 0 x24) 1 x25) 2 x26) 3 x27) 4 x28) 5 x29) 6 x30) 7 x31) 8 x32) 9 x33))) (gn_ext (fun k hk => match k, hk with | 0, _ => ⟨rfl, rfl⟩ | 1, _ => ⟨rfl, rfl⟩ | 2, _ => ⟨rfl, rfl⟩ | 3, _ => ⟨rfl, rfl⟩ | 4, _ => ⟨rfl, rfl⟩ | 5, _ => ⟨rfl, rfl⟩ | 6, _ => ⟨rfl, rfl⟩ | 7, _ => ⟨rfl, rfl⟩ | 8, _ => ⟨rfl, rfl⟩ | 9, _ => ⟨rfl, rfl⟩ | 10, _ => ⟨rfl, rfl⟩ | 11, _ => ⟨rfl, rfl⟩ | 12, _ => ⟨rfl, rfl⟩ | 13, _ => ⟨rfl, rfl⟩ | 14, _ => ⟨rfl, rfl⟩ | 15, _ => ⟨rfl, rfl⟩ | 16, _ => ⟨rfl, rfl⟩ | 17, _ => ⟨rfl, rfl⟩ | 18, _ => ⟨rfl, rfl⟩ | 19, _ => ⟨rfl, rfl⟩ | 20, _ => ⟨rfl, rfl⟩ | 21, _ => ⟨rfl, rfl⟩ | 22, _ => ⟨rfl, rfl⟩ | 23, _ => ⟨rfl, rfl⟩ | 24, _ => ⟨rfl, rfl⟩ | 25, _ => ⟨rfl, rfl⟩ | 26, _ => ⟨rfl, rfl⟩ | 27, _ => ⟨rfl, rfl⟩ | 28, _ => ⟨rfl, rfl⟩ | 29, _ => ⟨rfl, rfl⟩ | 30, _ => ⟨rfl, rfl⟩ | 31, _ => ⟨rfl, rfl⟩ | 32, _ => ⟨rfl, rfl⟩ | 33, _ => ⟨rfl, rfl⟩ | k + 34, h => absurd h (by omega))) (hE _ _ _ _ ⟨(va_up (va_up (va_up (va_up (va_up (va_up (va_up (va_up (va_up (va_up (fun _ => 0) 0 x24) 1 x25) 2 x26) 3 x27) 4 x28) 5 x29) 6 x30) 7 x31) 8 x32) 9 x33), rfl, rfl⟩ dX1_init_58)

set_option maxHeartbeats 4000000 in
set_option maxRecDepth 100000 in
theorem c_X3_init_36 {l : Launch} {X : Gx} {a : Nat → Nat} {f : Hp} (hf : f 35 = .inr (3, [.null, .int 0, .int 0, .int 0, .int 0])) (sz : Nat) : Cn l X yX3_init cX3_init 1 1 30 a 36 f 35 sz 1 120 37 (fun a' f' => ∃ b, a' = xA a 36 b ∧ f' = xF (va_up f 35 (.inr (3, [.ref (b 0), .int 0, .int 0, .int 0, .int 0]))) 36 (fun _ => intA X 120)) := by
  refine ct_n (own := RX3) (lv := [some (.ref (a 35))]) (by decide) rfl rfl (Nat.le_of_ble_eq_true rfl) (Nat.le_of_ble_eq_true rfl) rfl (fun A C hC hI hE => ?_)
  refine n_self hf ?_
  refine n_aload_n hC rfl dX3_init_0 (q := 1) rfl ?_
  refine n_obj hC wm_X3_3 ⟨Nat.le_of_ble_eq_true rfl, Nat.le_of_ble_eq_true rfl⟩ dX3_init_1 (q := 4) rfl ?_
  refine n_aload_n hC rfl dX3_init_4 (q := 5) rfl ?_
  refine n_bipush hC (v := 120) rfl dX3_init_5 (q := 7) rfl ?_
  refine n_newI hC (N := 120) (by decide) rfl (Nat.le_of_ble_eq_true rfl) ⟨Nat.le_of_ble_eq_true rfl, Nat.le_of_ble_eq_true rfl⟩ dX3_init_7 (q := 9) rfl (fun x36 => ?_)
  refine n_putF hC hI fl_X3_9 pf_3_0 (i := 35) (by decide) rfl (Nat.le_of_ble_eq_true rfl) rfl rfl dX3_init_9 (q := 12) rfl ?_
  refine n_aload_n hC rfl dX3_init_12 (q := 13) rfl ?_
  refine n_iconst hC (v := 0) rfl dX3_init_13 (q := 14) rfl ?_
  refine n_put hC fl_X3_15 pt_3_1 (i := 35) (by decide) rfl (Nat.le_of_ble_eq_true rfl) rfl rfl dX3_init_14 (q := 17) rfl ?_
  refine n_aload_n hC rfl dX3_init_17 (q := 18) rfl ?_
  refine n_iconst hC (v := 0) rfl dX3_init_18 (q := 19) rfl ?_
  refine n_put hC fl_X3_19 pt_3_2 (i := 35) (by decide) rfl (Nat.le_of_ble_eq_true rfl) rfl rfl dX3_init_19 (q := 22) rfl ?_
  refine n_aload_n hC rfl dX3_init_22 (q := 23) rfl ?_
  refine n_iconst hC (v := 0) rfl dX3_init_23 (q := 24) rfl ?_
  refine n_put hC fl_X3_22 pt_3_3 (i := 35) (by decide) rfl (Nat.le_of_ble_eq_true rfl) rfl rfl dX3_init_24 (q := 27) rfl ?_
  refine n_aload_n hC rfl dX3_init_27 (q := 28) rfl ?_
  refine n_iconst hC (v := 0) rfl dX3_init_28 (q := 29) rfl ?_
  refine n_put hC fl_X3_25 pt_3_4 (i := 35) (by decide) rfl (Nat.le_of_ble_eq_true rfl) rfl rfl dX3_init_29 (q := 32) rfl ?_
  exact n_eq (a' := xA a 36 (va_up (fun _ => 0) 0 x36)) (f' := xF (va_up f 35 (.inr (3, [.ref ((va_up (fun _ => 0) 0 x36) 0), .int 0, .int 0, .int 0, .int 0]))) 36 (fun _ => intA X 120)) (gn_ext (fun k hk => match k, hk with | 0, _ => ⟨rfl, rfl⟩ | 1, _ => ⟨rfl, rfl⟩ | 2, _ => ⟨rfl, rfl⟩ | 3, _ => ⟨rfl, rfl⟩ | 4, _ => ⟨rfl, rfl⟩ | 5, _ => ⟨rfl, rfl⟩ | 6, _ => ⟨rfl, rfl⟩ | 7, _ => ⟨rfl, rfl⟩ | 8, _ => ⟨rfl, rfl⟩ | 9, _ => ⟨rfl, rfl⟩ | 10, _ => ⟨rfl, rfl⟩ | 11, _ => ⟨rfl, rfl⟩ | 12, _ => ⟨rfl, rfl⟩ | 13, _ => ⟨rfl, rfl⟩ | 14, _ => ⟨rfl, rfl⟩ | 15, _ => ⟨rfl, rfl⟩ | 16, _ => ⟨rfl, rfl⟩ | 17, _ => ⟨rfl, rfl⟩ | 18, _ => ⟨rfl, rfl⟩ | 19, _ => ⟨rfl, rfl⟩ | 20, _ => ⟨rfl, rfl⟩ | 21, _ => ⟨rfl, rfl⟩ | 22, _ => ⟨rfl, rfl⟩ | 23, _ => ⟨rfl, rfl⟩ | 24, _ => ⟨rfl, rfl⟩ | 25, _ => ⟨rfl, rfl⟩ | 26, _ => ⟨rfl, rfl⟩ | 27, _ => ⟨rfl, rfl⟩ | 28, _ => ⟨rfl, rfl⟩ | 29, _ => ⟨rfl, rfl⟩ | 30, _ => ⟨rfl, rfl⟩ | 31, _ => ⟨rfl, rfl⟩ | 32, _ => ⟨rfl, rfl⟩ | 33, _ => ⟨rfl, rfl⟩ | 34, _ => ⟨rfl, rfl⟩ | 35, _ => ⟨rfl, rfl⟩ | 36, _ => ⟨rfl, rfl⟩ | k + 37, h => absurd h (by omega))) (hE _ _ _ _ ⟨(va_up (fun _ => 0) 0 x36), rfl, rfl⟩ dX3_init_32)

set_option maxHeartbeats 4000000 in
set_option maxRecDepth 100000 in
theorem c_X2_init_40 {l : Launch} {X : Gx} {a : Nat → Nat} {f : Hp} (hf : f 39 = .inr (2, [.int 0, .int 0, .null])) (sz : Nat) : Cn l X yX2_init cX2_init 1 1 30 a 40 f 39 sz 1 40 41 (fun a' f' => ∃ b, a' = xA a 40 b ∧ f' = xF (va_up f 39 (.inr (2, [.int 0, .int 0, .ref (b 0)]))) 40 (fun _ => lonA X 40)) := by
  refine ct_n (own := RX2) (lv := [some (.ref (a 39))]) (by decide) rfl rfl (Nat.le_of_ble_eq_true rfl) (Nat.le_of_ble_eq_true rfl) rfl (fun A C hC hI hE => ?_)
  refine n_self hf ?_
  refine n_aload_n hC rfl dX2_init_0 (q := 1) rfl ?_
  refine n_obj hC wm_X2_3 ⟨Nat.le_of_ble_eq_true rfl, Nat.le_of_ble_eq_true rfl⟩ dX2_init_1 (q := 4) rfl ?_
  refine n_aload_n hC rfl dX2_init_4 (q := 5) rfl ?_
  refine n_iconst hC (v := 0) rfl dX2_init_5 (q := 6) rfl ?_
  refine n_put hC fl_X2_9 pt_2_0 (i := 39) (by decide) rfl (Nat.le_of_ble_eq_true rfl) rfl rfl dX2_init_6 (q := 9) rfl ?_
  refine n_aload_n hC rfl dX2_init_9 (q := 10) rfl ?_
  refine n_iconst hC (v := 0) rfl dX2_init_10 (q := 11) rfl ?_
  refine n_put hC fl_X2_15 pt_2_1 (i := 39) (by decide) rfl (Nat.le_of_ble_eq_true rfl) rfl rfl dX2_init_11 (q := 14) rfl ?_
  refine n_aload_n hC rfl dX2_init_14 (q := 15) rfl ?_
  refine n_bipush hC (v := 40) rfl dX2_init_15 (q := 17) rfl ?_
  refine n_newJ hC (N := 40) (by decide) rfl (Nat.le_of_ble_eq_true rfl) ⟨Nat.le_of_ble_eq_true rfl, Nat.le_of_ble_eq_true rfl⟩ dX2_init_17 (q := 19) rfl (fun x40 => ?_)
  refine n_putF hC hI fl_X2_18 pf_2_2 (i := 39) (by decide) rfl (Nat.le_of_ble_eq_true rfl) rfl rfl dX2_init_19 (q := 22) rfl ?_
  exact n_eq (a' := xA a 40 (va_up (fun _ => 0) 0 x40)) (f' := xF (va_up f 39 (.inr (2, [.int 0, .int 0, .ref ((va_up (fun _ => 0) 0 x40) 0)]))) 40 (fun _ => lonA X 40)) (gn_ext (fun k hk => match k, hk with | 0, _ => ⟨rfl, rfl⟩ | 1, _ => ⟨rfl, rfl⟩ | 2, _ => ⟨rfl, rfl⟩ | 3, _ => ⟨rfl, rfl⟩ | 4, _ => ⟨rfl, rfl⟩ | 5, _ => ⟨rfl, rfl⟩ | 6, _ => ⟨rfl, rfl⟩ | 7, _ => ⟨rfl, rfl⟩ | 8, _ => ⟨rfl, rfl⟩ | 9, _ => ⟨rfl, rfl⟩ | 10, _ => ⟨rfl, rfl⟩ | 11, _ => ⟨rfl, rfl⟩ | 12, _ => ⟨rfl, rfl⟩ | 13, _ => ⟨rfl, rfl⟩ | 14, _ => ⟨rfl, rfl⟩ | 15, _ => ⟨rfl, rfl⟩ | 16, _ => ⟨rfl, rfl⟩ | 17, _ => ⟨rfl, rfl⟩ | 18, _ => ⟨rfl, rfl⟩ | 19, _ => ⟨rfl, rfl⟩ | 20, _ => ⟨rfl, rfl⟩ | 21, _ => ⟨rfl, rfl⟩ | 22, _ => ⟨rfl, rfl⟩ | 23, _ => ⟨rfl, rfl⟩ | 24, _ => ⟨rfl, rfl⟩ | 25, _ => ⟨rfl, rfl⟩ | 26, _ => ⟨rfl, rfl⟩ | 27, _ => ⟨rfl, rfl⟩ | 28, _ => ⟨rfl, rfl⟩ | 29, _ => ⟨rfl, rfl⟩ | 30, _ => ⟨rfl, rfl⟩ | 31, _ => ⟨rfl, rfl⟩ | 32, _ => ⟨rfl, rfl⟩ | 33, _ => ⟨rfl, rfl⟩ | 34, _ => ⟨rfl, rfl⟩ | 35, _ => ⟨rfl, rfl⟩ | 36, _ => ⟨rfl, rfl⟩ | 37, _ => ⟨rfl, rfl⟩ | 38, _ => ⟨rfl, rfl⟩ | 39, _ => ⟨rfl, rfl⟩ | 40, _ => ⟨rfl, rfl⟩ | k + 41, h => absurd h (by omega))) (hE _ _ _ _ ⟨(va_up (fun _ => 0) 0 x40), rfl, rfl⟩ dX2_init_22)

set_option maxHeartbeats 4000000 in
set_option maxRecDepth 100000 in
theorem c_X2_init_42 {l : Launch} {X : Gx} {a : Nat → Nat} {f : Hp} (hf : f 41 = .inr (2, [.int 0, .int 0, .null])) (sz : Nat) : Cn l X yX2_init cX2_init 1 1 30 a 42 f 41 sz 1 40 43 (fun a' f' => ∃ b, a' = xA a 42 b ∧ f' = xF (va_up f 41 (.inr (2, [.int 0, .int 0, .ref (b 0)]))) 42 (fun _ => lonA X 40)) := by
  refine ct_n (own := RX2) (lv := [some (.ref (a 41))]) (by decide) rfl rfl (Nat.le_of_ble_eq_true rfl) (Nat.le_of_ble_eq_true rfl) rfl (fun A C hC hI hE => ?_)
  refine n_self hf ?_
  refine n_aload_n hC rfl dX2_init_0 (q := 1) rfl ?_
  refine n_obj hC wm_X2_3 ⟨Nat.le_of_ble_eq_true rfl, Nat.le_of_ble_eq_true rfl⟩ dX2_init_1 (q := 4) rfl ?_
  refine n_aload_n hC rfl dX2_init_4 (q := 5) rfl ?_
  refine n_iconst hC (v := 0) rfl dX2_init_5 (q := 6) rfl ?_
  refine n_put hC fl_X2_9 pt_2_0 (i := 41) (by decide) rfl (Nat.le_of_ble_eq_true rfl) rfl rfl dX2_init_6 (q := 9) rfl ?_
  refine n_aload_n hC rfl dX2_init_9 (q := 10) rfl ?_
  refine n_iconst hC (v := 0) rfl dX2_init_10 (q := 11) rfl ?_
  refine n_put hC fl_X2_15 pt_2_1 (i := 41) (by decide) rfl (Nat.le_of_ble_eq_true rfl) rfl rfl dX2_init_11 (q := 14) rfl ?_
  refine n_aload_n hC rfl dX2_init_14 (q := 15) rfl ?_
  refine n_bipush hC (v := 40) rfl dX2_init_15 (q := 17) rfl ?_
  refine n_newJ hC (N := 40) (by decide) rfl (Nat.le_of_ble_eq_true rfl) ⟨Nat.le_of_ble_eq_true rfl, Nat.le_of_ble_eq_true rfl⟩ dX2_init_17 (q := 19) rfl (fun x42 => ?_)
  refine n_putF hC hI fl_X2_18 pf_2_2 (i := 41) (by decide) rfl (Nat.le_of_ble_eq_true rfl) rfl rfl dX2_init_19 (q := 22) rfl ?_
  exact n_eq (a' := xA a 42 (va_up (fun _ => 0) 0 x42)) (f' := xF (va_up f 41 (.inr (2, [.int 0, .int 0, .ref ((va_up (fun _ => 0) 0 x42) 0)]))) 42 (fun _ => lonA X 40)) (gn_ext (fun k hk => match k, hk with | 0, _ => ⟨rfl, rfl⟩ | 1, _ => ⟨rfl, rfl⟩ | 2, _ => ⟨rfl, rfl⟩ | 3, _ => ⟨rfl, rfl⟩ | 4, _ => ⟨rfl, rfl⟩ | 5, _ => ⟨rfl, rfl⟩ | 6, _ => ⟨rfl, rfl⟩ | 7, _ => ⟨rfl, rfl⟩ | 8, _ => ⟨rfl, rfl⟩ | 9, _ => ⟨rfl, rfl⟩ | 10, _ => ⟨rfl, rfl⟩ | 11, _ => ⟨rfl, rfl⟩ | 12, _ => ⟨rfl, rfl⟩ | 13, _ => ⟨rfl, rfl⟩ | 14, _ => ⟨rfl, rfl⟩ | 15, _ => ⟨rfl, rfl⟩ | 16, _ => ⟨rfl, rfl⟩ | 17, _ => ⟨rfl, rfl⟩ | 18, _ => ⟨rfl, rfl⟩ | 19, _ => ⟨rfl, rfl⟩ | 20, _ => ⟨rfl, rfl⟩ | 21, _ => ⟨rfl, rfl⟩ | 22, _ => ⟨rfl, rfl⟩ | 23, _ => ⟨rfl, rfl⟩ | 24, _ => ⟨rfl, rfl⟩ | 25, _ => ⟨rfl, rfl⟩ | 26, _ => ⟨rfl, rfl⟩ | 27, _ => ⟨rfl, rfl⟩ | 28, _ => ⟨rfl, rfl⟩ | 29, _ => ⟨rfl, rfl⟩ | 30, _ => ⟨rfl, rfl⟩ | 31, _ => ⟨rfl, rfl⟩ | 32, _ => ⟨rfl, rfl⟩ | 33, _ => ⟨rfl, rfl⟩ | 34, _ => ⟨rfl, rfl⟩ | 35, _ => ⟨rfl, rfl⟩ | 36, _ => ⟨rfl, rfl⟩ | 37, _ => ⟨rfl, rfl⟩ | 38, _ => ⟨rfl, rfl⟩ | 39, _ => ⟨rfl, rfl⟩ | 40, _ => ⟨rfl, rfl⟩ | 41, _ => ⟨rfl, rfl⟩ | 42, _ => ⟨rfl, rfl⟩ | k + 43, h => absurd h (by omega))) (hE _ _ _ _ ⟨(va_up (fun _ => 0) 0 x42), rfl, rfl⟩ dX2_init_22)

set_option maxHeartbeats 4000000 in
set_option maxRecDepth 100000 in
theorem c_X2_init_44 {l : Launch} {X : Gx} {a : Nat → Nat} {f : Hp} (hf : f 43 = .inr (2, [.int 0, .int 0, .null])) (sz : Nat) : Cn l X yX2_init cX2_init 1 1 30 a 44 f 43 sz 1 40 45 (fun a' f' => ∃ b, a' = xA a 44 b ∧ f' = xF (va_up f 43 (.inr (2, [.int 0, .int 0, .ref (b 0)]))) 44 (fun _ => lonA X 40)) := by
  refine ct_n (own := RX2) (lv := [some (.ref (a 43))]) (by decide) rfl rfl (Nat.le_of_ble_eq_true rfl) (Nat.le_of_ble_eq_true rfl) rfl (fun A C hC hI hE => ?_)
  refine n_self hf ?_
  refine n_aload_n hC rfl dX2_init_0 (q := 1) rfl ?_
  refine n_obj hC wm_X2_3 ⟨Nat.le_of_ble_eq_true rfl, Nat.le_of_ble_eq_true rfl⟩ dX2_init_1 (q := 4) rfl ?_
  refine n_aload_n hC rfl dX2_init_4 (q := 5) rfl ?_
  refine n_iconst hC (v := 0) rfl dX2_init_5 (q := 6) rfl ?_
  refine n_put hC fl_X2_9 pt_2_0 (i := 43) (by decide) rfl (Nat.le_of_ble_eq_true rfl) rfl rfl dX2_init_6 (q := 9) rfl ?_
  refine n_aload_n hC rfl dX2_init_9 (q := 10) rfl ?_
  refine n_iconst hC (v := 0) rfl dX2_init_10 (q := 11) rfl ?_
  refine n_put hC fl_X2_15 pt_2_1 (i := 43) (by decide) rfl (Nat.le_of_ble_eq_true rfl) rfl rfl dX2_init_11 (q := 14) rfl ?_
  refine n_aload_n hC rfl dX2_init_14 (q := 15) rfl ?_
  refine n_bipush hC (v := 40) rfl dX2_init_15 (q := 17) rfl ?_
  refine n_newJ hC (N := 40) (by decide) rfl (Nat.le_of_ble_eq_true rfl) ⟨Nat.le_of_ble_eq_true rfl, Nat.le_of_ble_eq_true rfl⟩ dX2_init_17 (q := 19) rfl (fun x44 => ?_)
  refine n_putF hC hI fl_X2_18 pf_2_2 (i := 43) (by decide) rfl (Nat.le_of_ble_eq_true rfl) rfl rfl dX2_init_19 (q := 22) rfl ?_
  exact n_eq (a' := xA a 44 (va_up (fun _ => 0) 0 x44)) (f' := xF (va_up f 43 (.inr (2, [.int 0, .int 0, .ref ((va_up (fun _ => 0) 0 x44) 0)]))) 44 (fun _ => lonA X 40)) (gn_ext (fun k hk => match k, hk with | 0, _ => ⟨rfl, rfl⟩ | 1, _ => ⟨rfl, rfl⟩ | 2, _ => ⟨rfl, rfl⟩ | 3, _ => ⟨rfl, rfl⟩ | 4, _ => ⟨rfl, rfl⟩ | 5, _ => ⟨rfl, rfl⟩ | 6, _ => ⟨rfl, rfl⟩ | 7, _ => ⟨rfl, rfl⟩ | 8, _ => ⟨rfl, rfl⟩ | 9, _ => ⟨rfl, rfl⟩ | 10, _ => ⟨rfl, rfl⟩ | 11, _ => ⟨rfl, rfl⟩ | 12, _ => ⟨rfl, rfl⟩ | 13, _ => ⟨rfl, rfl⟩ | 14, _ => ⟨rfl, rfl⟩ | 15, _ => ⟨rfl, rfl⟩ | 16, _ => ⟨rfl, rfl⟩ | 17, _ => ⟨rfl, rfl⟩ | 18, _ => ⟨rfl, rfl⟩ | 19, _ => ⟨rfl, rfl⟩ | 20, _ => ⟨rfl, rfl⟩ | 21, _ => ⟨rfl, rfl⟩ | 22, _ => ⟨rfl, rfl⟩ | 23, _ => ⟨rfl, rfl⟩ | 24, _ => ⟨rfl, rfl⟩ | 25, _ => ⟨rfl, rfl⟩ | 26, _ => ⟨rfl, rfl⟩ | 27, _ => ⟨rfl, rfl⟩ | 28, _ => ⟨rfl, rfl⟩ | 29, _ => ⟨rfl, rfl⟩ | 30, _ => ⟨rfl, rfl⟩ | 31, _ => ⟨rfl, rfl⟩ | 32, _ => ⟨rfl, rfl⟩ | 33, _ => ⟨rfl, rfl⟩ | 34, _ => ⟨rfl, rfl⟩ | 35, _ => ⟨rfl, rfl⟩ | 36, _ => ⟨rfl, rfl⟩ | 37, _ => ⟨rfl, rfl⟩ | 38, _ => ⟨rfl, rfl⟩ | 39, _ => ⟨rfl, rfl⟩ | 40, _ => ⟨rfl, rfl⟩ | 41, _ => ⟨rfl, rfl⟩ | 42, _ => ⟨rfl, rfl⟩ | 43, _ => ⟨rfl, rfl⟩ | 44, _ => ⟨rfl, rfl⟩ | k + 45, h => absurd h (by omega))) (hE _ _ _ _ ⟨(va_up (fun _ => 0) 0 x44), rfl, rfl⟩ dX2_init_22)

set_option maxHeartbeats 4000000 in
set_option maxRecDepth 100000 in
theorem c_X2_init_46 {l : Launch} {X : Gx} {a : Nat → Nat} {f : Hp} (hf : f 45 = .inr (2, [.int 0, .int 0, .null])) (sz : Nat) : Cn l X yX2_init cX2_init 1 1 30 a 46 f 45 sz 1 40 47 (fun a' f' => ∃ b, a' = xA a 46 b ∧ f' = xF (va_up f 45 (.inr (2, [.int 0, .int 0, .ref (b 0)]))) 46 (fun _ => lonA X 40)) := by
  refine ct_n (own := RX2) (lv := [some (.ref (a 45))]) (by decide) rfl rfl (Nat.le_of_ble_eq_true rfl) (Nat.le_of_ble_eq_true rfl) rfl (fun A C hC hI hE => ?_)
  refine n_self hf ?_
  refine n_aload_n hC rfl dX2_init_0 (q := 1) rfl ?_
  refine n_obj hC wm_X2_3 ⟨Nat.le_of_ble_eq_true rfl, Nat.le_of_ble_eq_true rfl⟩ dX2_init_1 (q := 4) rfl ?_
  refine n_aload_n hC rfl dX2_init_4 (q := 5) rfl ?_
  refine n_iconst hC (v := 0) rfl dX2_init_5 (q := 6) rfl ?_
  refine n_put hC fl_X2_9 pt_2_0 (i := 45) (by decide) rfl (Nat.le_of_ble_eq_true rfl) rfl rfl dX2_init_6 (q := 9) rfl ?_
  refine n_aload_n hC rfl dX2_init_9 (q := 10) rfl ?_
  refine n_iconst hC (v := 0) rfl dX2_init_10 (q := 11) rfl ?_
  refine n_put hC fl_X2_15 pt_2_1 (i := 45) (by decide) rfl (Nat.le_of_ble_eq_true rfl) rfl rfl dX2_init_11 (q := 14) rfl ?_
  refine n_aload_n hC rfl dX2_init_14 (q := 15) rfl ?_
  refine n_bipush hC (v := 40) rfl dX2_init_15 (q := 17) rfl ?_
  refine n_newJ hC (N := 40) (by decide) rfl (Nat.le_of_ble_eq_true rfl) ⟨Nat.le_of_ble_eq_true rfl, Nat.le_of_ble_eq_true rfl⟩ dX2_init_17 (q := 19) rfl (fun x46 => ?_)
  refine n_putF hC hI fl_X2_18 pf_2_2 (i := 45) (by decide) rfl (Nat.le_of_ble_eq_true rfl) rfl rfl dX2_init_19 (q := 22) rfl ?_
  exact n_eq (a' := xA a 46 (va_up (fun _ => 0) 0 x46)) (f' := xF (va_up f 45 (.inr (2, [.int 0, .int 0, .ref ((va_up (fun _ => 0) 0 x46) 0)]))) 46 (fun _ => lonA X 40)) (gn_ext (fun k hk => match k, hk with | 0, _ => ⟨rfl, rfl⟩ | 1, _ => ⟨rfl, rfl⟩ | 2, _ => ⟨rfl, rfl⟩ | 3, _ => ⟨rfl, rfl⟩ | 4, _ => ⟨rfl, rfl⟩ | 5, _ => ⟨rfl, rfl⟩ | 6, _ => ⟨rfl, rfl⟩ | 7, _ => ⟨rfl, rfl⟩ | 8, _ => ⟨rfl, rfl⟩ | 9, _ => ⟨rfl, rfl⟩ | 10, _ => ⟨rfl, rfl⟩ | 11, _ => ⟨rfl, rfl⟩ | 12, _ => ⟨rfl, rfl⟩ | 13, _ => ⟨rfl, rfl⟩ | 14, _ => ⟨rfl, rfl⟩ | 15, _ => ⟨rfl, rfl⟩ | 16, _ => ⟨rfl, rfl⟩ | 17, _ => ⟨rfl, rfl⟩ | 18, _ => ⟨rfl, rfl⟩ | 19, _ => ⟨rfl, rfl⟩ | 20, _ => ⟨rfl, rfl⟩ | 21, _ => ⟨rfl, rfl⟩ | 22, _ => ⟨rfl, rfl⟩ | 23, _ => ⟨rfl, rfl⟩ | 24, _ => ⟨rfl, rfl⟩ | 25, _ => ⟨rfl, rfl⟩ | 26, _ => ⟨rfl, rfl⟩ | 27, _ => ⟨rfl, rfl⟩ | 28, _ => ⟨rfl, rfl⟩ | 29, _ => ⟨rfl, rfl⟩ | 30, _ => ⟨rfl, rfl⟩ | 31, _ => ⟨rfl, rfl⟩ | 32, _ => ⟨rfl, rfl⟩ | 33, _ => ⟨rfl, rfl⟩ | 34, _ => ⟨rfl, rfl⟩ | 35, _ => ⟨rfl, rfl⟩ | 36, _ => ⟨rfl, rfl⟩ | 37, _ => ⟨rfl, rfl⟩ | 38, _ => ⟨rfl, rfl⟩ | 39, _ => ⟨rfl, rfl⟩ | 40, _ => ⟨rfl, rfl⟩ | 41, _ => ⟨rfl, rfl⟩ | 42, _ => ⟨rfl, rfl⟩ | 43, _ => ⟨rfl, rfl⟩ | 44, _ => ⟨rfl, rfl⟩ | 45, _ => ⟨rfl, rfl⟩ | 46, _ => ⟨rfl, rfl⟩ | k + 47, h => absurd h (by omega))) (hE _ _ _ _ ⟨(va_up (fun _ => 0) 0 x46), rfl, rfl⟩ dX2_init_22)

set_option maxHeartbeats 4000000 in
set_option maxRecDepth 100000 in
theorem c_X6_init_48 {l : Launch} {X : Gx} {a : Nat → Nat} {f : Hp} (hf : f 47 = .inr (5, [.null, .null, .null, .int 0, .null, .null, .int 0, .int 0, .int 0, .int 0, .int 0, .int 0, .null, .null, .null])) (sz : Nat) : Cn l X yX6_init cX6_init 1 1 30 a 48 f 47 sz 8 469 56 (fun a' f' => ∃ b, a' = xA a 48 b ∧ f' = xF (va_up f 47 (mC0 b)) 48 (mT X)) := by
  refine ct_n (own := RX6) (lv := [some (.ref (a 47))]) (by decide) rfl rfl (Nat.le_of_ble_eq_true rfl) (Nat.le_of_ble_eq_true rfl) rfl (fun A C hC hI hE => ?_)
  refine n_self hf ?_
  refine n_aload_n hC rfl dX6_init_0 (q := 1) rfl ?_
  refine n_obj hC wm_X6_3 ⟨Nat.le_of_ble_eq_true rfl, Nat.le_of_ble_eq_true rfl⟩ dX6_init_1 (q := 4) rfl ?_
  refine n_aload_n hC rfl dX6_init_4 (q := 5) rfl ?_
  refine n_bipush hC (v := 58) rfl dX6_init_5 (q := 7) rfl ?_
  refine n_newI hC (N := 58) (by decide) rfl (Nat.le_of_ble_eq_true rfl) ⟨Nat.le_of_ble_eq_true rfl, Nat.le_of_ble_eq_true rfl⟩ dX6_init_7 (q := 9) rfl (fun x48 => ?_)
  refine n_putF hC hI fl_X6_9 pf_5_0 (i := 47) (by decide) rfl (Nat.le_of_ble_eq_true rfl) rfl rfl dX6_init_9 (q := 12) rfl ?_
  refine n_aload_n hC rfl dX6_init_12 (q := 13) rfl ?_
  refine n_bipush hC (v := 58) rfl dX6_init_13 (q := 15) rfl ?_
  refine n_newI hC (N := 58) (by decide) rfl (Nat.le_of_ble_eq_true rfl) ⟨Nat.le_of_ble_eq_true rfl, Nat.le_of_ble_eq_true rfl⟩ dX6_init_15 (q := 17) rfl (fun x49 => ?_)
  refine n_putF hC hI fl_X6_13 pf_5_1 (i := 47) (by decide) rfl (Nat.le_of_ble_eq_true rfl) rfl rfl dX6_init_17 (q := 20) rfl ?_
  refine n_aload_n hC rfl dX6_init_20 (q := 21) rfl ?_
  refine n_bipush hC (v := 58) rfl dX6_init_21 (q := 23) rfl ?_
  refine n_newI hC (N := 58) (by decide) rfl (Nat.le_of_ble_eq_true rfl) ⟨Nat.le_of_ble_eq_true rfl, Nat.le_of_ble_eq_true rfl⟩ dX6_init_23 (q := 25) rfl (fun x50 => ?_)
  refine n_putF hC hI fl_X6_16 pf_5_2 (i := 47) (by decide) rfl (Nat.le_of_ble_eq_true rfl) rfl rfl dX6_init_25 (q := 28) rfl ?_
  refine n_aload_n hC rfl dX6_init_28 (q := 29) rfl ?_
  refine n_bipush hC (v := 7) rfl dX6_init_29 (q := 31) rfl ?_
  refine n_newI hC (N := 7) (by decide) rfl (Nat.le_of_ble_eq_true rfl) ⟨Nat.le_of_ble_eq_true rfl, Nat.le_of_ble_eq_true rfl⟩ dX6_init_31 (q := 33) rfl (fun x51 => ?_)
  refine n_putF hC hI fl_X6_19 pf_5_4 (i := 47) (by decide) rfl (Nat.le_of_ble_eq_true rfl) rfl rfl dX6_init_33 (q := 36) rfl ?_
  refine n_aload_n hC rfl dX6_init_36 (q := 37) rfl ?_
  refine n_bipush hC (v := 120) rfl dX6_init_37 (q := 39) rfl ?_
  refine n_newI hC (N := 120) (by decide) rfl (Nat.le_of_ble_eq_true rfl) ⟨Nat.le_of_ble_eq_true rfl, Nat.le_of_ble_eq_true rfl⟩ dX6_init_39 (q := 41) rfl (fun x52 => ?_)
  refine n_putF hC hI fl_X6_22 pf_5_5 (i := 47) (by decide) rfl (Nat.le_of_ble_eq_true rfl) rfl rfl dX6_init_41 (q := 44) rfl ?_
  refine n_aload_n hC rfl dX6_init_44 (q := 45) rfl ?_
  refine n_iconst hC (v := 4) rfl dX6_init_45 (q := 46) rfl ?_
  refine n_newI hC (N := 4) (by decide) rfl (Nat.le_of_ble_eq_true rfl) ⟨Nat.le_of_ble_eq_true rfl, Nat.le_of_ble_eq_true rfl⟩ dX6_init_46 (q := 48) rfl (fun x53 => ?_)
  refine n_putF hC hI fl_X6_25 pf_5_12 (i := 47) (by decide) rfl (Nat.le_of_ble_eq_true rfl) rfl rfl dX6_init_48 (q := 51) rfl ?_
  refine n_aload_n hC rfl dX6_init_51 (q := 52) rfl ?_
  refine n_iconst hC (v := 4) rfl dX6_init_52 (q := 53) rfl ?_
  refine n_newI hC (N := 4) (by decide) rfl (Nat.le_of_ble_eq_true rfl) ⟨Nat.le_of_ble_eq_true rfl, Nat.le_of_ble_eq_true rfl⟩ dX6_init_53 (q := 55) rfl (fun x54 => ?_)
  refine n_putF hC hI fl_X6_28 pf_5_13 (i := 47) (by decide) rfl (Nat.le_of_ble_eq_true rfl) rfl rfl dX6_init_55 (q := 58) rfl ?_
  refine n_aload_n hC rfl dX6_init_58 (q := 59) rfl ?_
  refine n_sipush hC (v := 160) rfl dX6_init_59 (q := 62) rfl ?_
  refine n_newJ hC (N := 160) (by decide) rfl (Nat.le_of_ble_eq_true rfl) ⟨Nat.le_of_ble_eq_true rfl, Nat.le_of_ble_eq_true rfl⟩ dX6_init_62 (q := 64) rfl (fun x55 => ?_)
  refine n_putF hC hI fl_X6_31 pf_5_14 (i := 47) (by decide) rfl (Nat.le_of_ble_eq_true rfl) rfl rfl dX6_init_64 (q := 67) rfl ?_
  refine n_aload_n hC rfl dX6_init_67 (q := 68) rfl ?_
  refine n_get hC fl_X6_9 (i := 47) (by decide) rfl rfl dX6_init_68 (q := 71) rfl ?_
  refine n_iconst hC (v := 1) rfl dX6_init_71 (q := 72) rfl ?_
  refine n_iconst hC (v := 0) rfl dX6_init_72 (q := 73) rfl ?_
  refine n_iast hC (i := 48) (j := 1) (by decide) rfl (vp_l (by decide)) rfl dX6_init_73 (q := 74) rfl ?_
  rw [upd_z]
  exact n_eq (a' := xA a 48 (va_up (va_up (va_up (va_up (va_up (va_up (va_up (va_up (fun _ => 0) 0 x48) 1 x49) 2 x50) 3 x51) 4 x52) 5 x53) 6 x54) 7 x55)) (f' := xF (va_up f 47 (mC0 (va_up (va_up (va_up (va_up (va_up (va_up (va_up (va_up (fun _ => 0) 0 x48) 1 x49) 2 x50) 3 x51) 4 x52) 5 x53) 6 x54) 7 x55))) 48 (mT X)) (gn_ext (fun k hk => match k, hk with | 0, _ => ⟨rfl, rfl⟩ | 1, _ => ⟨rfl, rfl⟩ | 2, _ => ⟨rfl, rfl⟩ | 3, _ => ⟨rfl, rfl⟩ | 4, _ => ⟨rfl, rfl⟩ | 5, _ => ⟨rfl, rfl⟩ | 6, _ => ⟨rfl, rfl⟩ | 7, _ => ⟨rfl, rfl⟩ | 8, _ => ⟨rfl, rfl⟩ | 9, _ => ⟨rfl, rfl⟩ | 10, _ => ⟨rfl, rfl⟩ | 11, _ => ⟨rfl, rfl⟩ | 12, _ => ⟨rfl, rfl⟩ | 13, _ => ⟨rfl, rfl⟩ | 14, _ => ⟨rfl, rfl⟩ | 15, _ => ⟨rfl, rfl⟩ | 16, _ => ⟨rfl, rfl⟩ | 17, _ => ⟨rfl, rfl⟩ | 18, _ => ⟨rfl, rfl⟩ | 19, _ => ⟨rfl, rfl⟩ | 20, _ => ⟨rfl, rfl⟩ | 21, _ => ⟨rfl, rfl⟩ | 22, _ => ⟨rfl, rfl⟩ | 23, _ => ⟨rfl, rfl⟩ | 24, _ => ⟨rfl, rfl⟩ | 25, _ => ⟨rfl, rfl⟩ | 26, _ => ⟨rfl, rfl⟩ | 27, _ => ⟨rfl, rfl⟩ | 28, _ => ⟨rfl, rfl⟩ | 29, _ => ⟨rfl, rfl⟩ | 30, _ => ⟨rfl, rfl⟩ | 31, _ => ⟨rfl, rfl⟩ | 32, _ => ⟨rfl, rfl⟩ | 33, _ => ⟨rfl, rfl⟩ | 34, _ => ⟨rfl, rfl⟩ | 35, _ => ⟨rfl, rfl⟩ | 36, _ => ⟨rfl, rfl⟩ | 37, _ => ⟨rfl, rfl⟩ | 38, _ => ⟨rfl, rfl⟩ | 39, _ => ⟨rfl, rfl⟩ | 40, _ => ⟨rfl, rfl⟩ | 41, _ => ⟨rfl, rfl⟩ | 42, _ => ⟨rfl, rfl⟩ | 43, _ => ⟨rfl, rfl⟩ | 44, _ => ⟨rfl, rfl⟩ | 45, _ => ⟨rfl, rfl⟩ | 46, _ => ⟨rfl, rfl⟩ | 47, _ => ⟨rfl, rfl⟩ | 48, _ => ⟨rfl, rfl⟩ | 49, _ => ⟨rfl, rfl⟩ | 50, _ => ⟨rfl, rfl⟩ | 51, _ => ⟨rfl, rfl⟩ | 52, _ => ⟨rfl, rfl⟩ | 53, _ => ⟨rfl, rfl⟩ | 54, _ => ⟨rfl, rfl⟩ | 55, _ => ⟨rfl, rfl⟩ | k + 56, h => absurd h (by omega))) (hE _ _ _ _ ⟨(va_up (va_up (va_up (va_up (va_up (va_up (va_up (va_up (fun _ => 0) 0 x48) 1 x49) 2 x50) 3 x51) 4 x52) 5 x53) 6 x54) 7 x55), rfl, rfl⟩ dX6_init_74)
