set_option maxHeartbeats 40000000 in
set_option maxRecDepth 100000 in
theorem c_M_init (l : Launch) (dC : Nat → ClassId) (dI : Nat → Nat → Nat) (h0 sz : Nat) : Met l yM_init wsM_init ({ frames := 1, cells := 4, slots := 174, locals := 12 }) (va_Pc [.ref h0] (fun U => U.heap.size = sz ∧ va_P (dC, dI) vwCl [(h0, .inr (1, [.null, .null, .null, .null]))] U.heap ∧ va_K (dC, dI) vwCl [] U ∧ va_D (fun _ => True) [(h0, .inr (1, [.null, .null, .null, .null]))])) (va_Qv (fun _ : Unit => True) (fun _ t => ∃ (q1 q2 q3 q4 : Nat) (k1 k2 k3 k4 : ClassId), va_P (dC, dI) vwCl (wsM h0 q1 q2 q3 q4 k1 k2 k3 k4 (fun _ => 0) (fun _ => 0) (ltS 56) (fun _ => 0)) t.heap ∧ va_K (dC, dI) vwCl [(k1, .boolean), (k2, .int), (k3, .int), (k4, .int)] t ∧ va_D (va_A [(h0, .inr (1, [.null, .null, .null, .null]))] sz) (wsM h0 q1 q2 q3 q4 k1 k2 k3 k4 (fun _ => 0) (fun _ => 0) (ltS 56) (fun _ => 0))) (va_A [(h0, .inr (1, [.null, .null, .null, .null]))] sz)) 4 174 (va_A [(h0, .inr (1, [.null, .null, .null, .null]))] sz) := by
  refine Met.ofW (cc := prog_3_method_1_code) (maxL := 1) (ret := none) (by decide) rfl ?_
  intro p e s m args below meth c s₁ B hml hv
  obtain ⟨rfl, hsz, hP, hK, hD0⟩ := hv
  have hx := B.exec
  have hb := B.bytes
  have hr := B.returns
  have hts := fun (w : Cond) (h : w ∈ gw) => atoms_spec (ws := wsM_init) B.pre w (List.mem_cons_of_mem _ h)
  have hown : s.vm.findClass RM = some m.cls := findClass_of_methodNamed B.named
  have hlocks := B.notSynchronized
  have hin : meth.name = "<init>" := (name_of_methodNamed B.named B.method).1
  subst hsz
  have hD := hD0.self (sz := s.heap.size)
  generalize hAe : va_A [(h0, .inr (1, [.null, .null, .null, .null]))] s.heap.size = A at hD ⊢
  have hA : ∀ q : Nat, s.heap.size ≤ q → A q := fun q h => by rw [← hAe]; exact Or.inr h
  have hS : va_S A s.heap s.heap [] := va_S.rf
  have hl := lv_entry ([.ref h0]) (n := 1) (Nat.le_of_ble_eq_true rfl)
  rw [lg_entry_eq]
  generalize (lg_sl ([.ref h0]) ++ List.replicate (1 - (lg_sl ([.ref h0])).length) Slot.unset).toArray = ls at hl ⊢
  have hl : lv_has ls 1 [(0, .ref h0)] := hl
  refine lv_aload_n hx hb dM_init_0 rfl (lv_at hl 0 rfl) ?_
  refine W.objInit hx hb hown (hts _ tw_213) (hts _ tw_15) (hts _ tw_obj) rfl (by rw [hml]; exact hl.1) rfl dM_init_1 (Nat.le_of_ble_eq_true rfl) (Nat.le_of_ble_eq_true rfl) ?_
  refine W.eq (g2 := F0 m 4 ls []) rfl ?_
  refine lv_aload_n hx hb dM_init_4 rfl (lv_at hl 0 rfl) ?_
  refine lv_bipush (v := (16 : Int32)) hx hb dM_init_5 (by decide) ?_
  refine va_newa (atype := .boolean) (ty := .boolean) (a0 := (16, .inl (fun _ => 0))) (N' := 16) hx hb (hts _ tw_227) rfl hK hP hD hS hA (fun _ => rfl) (by decide) (by decide) (by decide) (Nat.le_of_ble_eq_true rfl) (Nat.le_of_ble_eq_true rfl) dM_init_7 (fun q1 k1 H hK hP hD hS => ?_)
  have hK : va_K (dC, dI) vwCl [(k1, .boolean)] s := hK
  have hP : va_P (dC, dI) vwCl [(h0, .inr (1, [.null, .null, .null, .null])), (q1, .inl (k1, 16, .inl (fun _ => 0)))] H := hP
  have hD : va_D A [(h0, .inr (1, [.null, .null, .null, .null])), (q1, .inl (k1, 16, .inl (fun _ => 0)))] := hD
  refine W.widen (k := 1) (n := 16) (by omega) (by omega) ?_
  refine va_putF (D := (dC, dI)) (ci := 1) (v := .ref q1) (ty := .array .boolean) (C := RM) (T := TM) (N := 4) hx hb hts iM tyM tyM_ok nmM hown hK hP hD hS 0 rfl rfl 0 (by decide) (hts _ tw_214) (fun _ h9 => h9) rfl hin rfl (by decide +kernel) rfl rfl (Nat.le_of_ble_eq_true rfl) dM_init_9 (fun H locs hP hD hS => ?_)
  have hP : va_P (dC, dI) vwCl [(h0, .inr (1, [.ref q1, .null, .null, .null])), (q1, .inl (k1, 16, .inl (fun _ => 0)))] H := hP
  have hD : va_D A [(h0, .inr (1, [.ref q1, .null, .null, .null])), (q1, .inl (k1, 16, .inl (fun _ => 0)))] := hD
  refine lv_aload_n hx hb dM_init_12 rfl (lv_at hl 0 rfl) ?_
  refine lv_bipush (v := (96 : Int32)) hx hb dM_init_13 (by decide) ?_
  refine va_newa (atype := .int) (ty := .int) (a0 := (96, .inl (fun _ => 0))) (N' := 96) hx hb (hts _ tw_21) rfl hK hP hD hS hA (fun _ => rfl) (by decide) (by decide) (by decide) (Nat.le_of_ble_eq_true rfl) (Nat.le_of_ble_eq_true rfl) dM_init_15 (fun q2 k2 H hK hP hD hS => ?_)
  have hK : va_K (dC, dI) vwCl [(k1, .boolean), (k2, .int)] s := hK
  have hP : va_P (dC, dI) vwCl [(h0, .inr (1, [.ref q1, .null, .null, .null])), (q1, .inl (k1, 16, .inl (fun _ => 0))), (q2, .inl (k2, 96, .inl (fun _ => 0)))] H := hP
  have hD : va_D A [(h0, .inr (1, [.ref q1, .null, .null, .null])), (q1, .inl (k1, 16, .inl (fun _ => 0))), (q2, .inl (k2, 96, .inl (fun _ => 0)))] := hD
  refine W.widen (k := 2) (n := 112) (by omega) (by omega) ?_
  refine va_putF (D := (dC, dI)) (ci := 1) (v := .ref q2) (ty := .array .int) (C := RM) (T := TM) (N := 4) hx hb hts iM tyM tyM_ok nmM hown hK hP hD hS 0 rfl rfl 1 (by decide) (hts _ tw_215) (fun _ h9 => h9) rfl hin rfl (by decide +kernel) rfl rfl (Nat.le_of_ble_eq_true rfl) dM_init_17 (fun H locs hP hD hS => ?_)
  have hP : va_P (dC, dI) vwCl [(h0, .inr (1, [.ref q1, .ref q2, .null, .null])), (q1, .inl (k1, 16, .inl (fun _ => 0))), (q2, .inl (k2, 96, .inl (fun _ => 0)))] H := hP
  have hD : va_D A [(h0, .inr (1, [.ref q1, .ref q2, .null, .null])), (q1, .inl (k1, 16, .inl (fun _ => 0))), (q2, .inl (k2, 96, .inl (fun _ => 0)))] := hD
  refine lv_aload_n hx hb dM_init_20 rfl (lv_at hl 0 rfl) ?_
  refine lv_bipush (v := (56 : Int32)) hx hb dM_init_21 (by decide) ?_
  refine va_newa (atype := .int) (ty := .int) (a0 := (56, .inl (fun _ => 0))) (N' := 56) hx hb (hts _ tw_21) rfl hK hP hD hS hA (fun _ => rfl) (by decide) (by decide) (by decide) (Nat.le_of_ble_eq_true rfl) (Nat.le_of_ble_eq_true rfl) dM_init_23 (fun q3 k3 H hK hP hD hS => ?_)
  have hK : va_K (dC, dI) vwCl [(k1, .boolean), (k2, .int), (k3, .int)] s := hK
  have hP : va_P (dC, dI) vwCl [(h0, .inr (1, [.ref q1, .ref q2, .null, .null])), (q1, .inl (k1, 16, .inl (fun _ => 0))), (q2, .inl (k2, 96, .inl (fun _ => 0))), (q3, .inl (k3, 56, .inl (fun _ => 0)))] H := hP
  have hD : va_D A [(h0, .inr (1, [.ref q1, .ref q2, .null, .null])), (q1, .inl (k1, 16, .inl (fun _ => 0))), (q2, .inl (k2, 96, .inl (fun _ => 0))), (q3, .inl (k3, 56, .inl (fun _ => 0)))] := hD
  refine W.widen (k := 3) (n := 168) (by omega) (by omega) ?_
  refine lv_dup hx hb dM_init_25 rfl ?_
  refine lv_iconst (v := (0 : Int32)) hx hb dM_init_26 (by decide) ?_
  refine lv_bipush (v := (32 : Int32)) hx hb dM_init_27 (by decide) ?_
  refine va_iast hx hb hK hP hD hS 3 2 rfl rfl (by unfold vp_in; decide) dM_init_29 (fun H locs hP hD hS => ?_)
  have hP : va_P (dC, dI) vwCl [(h0, .inr (1, [.ref q1, .ref q2, .null, .null])), (q1, .inl (k1, 16, .inl (fun _ => 0))), (q2, .inl (k2, 96, .inl (fun _ => 0))), (q3, .inl (k3, 56, .inl (ltS 1)))] H := hP
  have hD : va_D A [(h0, .inr (1, [.ref q1, .ref q2, .null, .null])), (q1, .inl (k1, 16, .inl (fun _ => 0))), (q2, .inl (k2, 96, .inl (fun _ => 0))), (q3, .inl (k3, 56, .inl (ltS 1)))] := hD
  refine lv_dup hx hb dM_init_30 rfl ?_
  refine lv_iconst (v := (1 : Int32)) hx hb dM_init_31 (by decide) ?_
  refine lv_bipush (v := (65 : Int32)) hx hb dM_init_32 (by decide) ?_
  refine va_iast hx hb hK hP hD hS 3 2 rfl rfl (by unfold vp_in; decide) dM_init_34 (fun H locs hP hD hS => ?_)
  have hP : va_P (dC, dI) vwCl [(h0, .inr (1, [.ref q1, .ref q2, .null, .null])), (q1, .inl (k1, 16, .inl (fun _ => 0))), (q2, .inl (k2, 96, .inl (fun _ => 0))), (q3, .inl (k3, 56, .inl (ltS 2)))] H := hP
  have hD : va_D A [(h0, .inr (1, [.ref q1, .ref q2, .null, .null])), (q1, .inl (k1, 16, .inl (fun _ => 0))), (q2, .inl (k2, 96, .inl (fun _ => 0))), (q3, .inl (k3, 56, .inl (ltS 2)))] := hD
  refine lv_dup hx hb dM_init_35 rfl ?_
  refine lv_iconst (v := (2 : Int32)) hx hb dM_init_36 (by decide) ?_
  refine lv_bipush (v := (66 : Int32)) hx hb dM_init_37 (by decide) ?_
  refine va_iast hx hb hK hP hD hS 3 2 rfl rfl (by unfold vp_in; decide) dM_init_39 (fun H locs hP hD hS => ?_)
  have hP : va_P (dC, dI) vwCl [(h0, .inr (1, [.ref q1, .ref q2, .null, .null])), (q1, .inl (k1, 16, .inl (fun _ => 0))), (q2, .inl (k2, 96, .inl (fun _ => 0))), (q3, .inl (k3, 56, .inl (ltS 3)))] H := hP
  have hD : va_D A [(h0, .inr (1, [.ref q1, .ref q2, .null, .null])), (q1, .inl (k1, 16, .inl (fun _ => 0))), (q2, .inl (k2, 96, .inl (fun _ => 0))), (q3, .inl (k3, 56, .inl (ltS 3)))] := hD
  refine lv_dup hx hb dM_init_40 rfl ?_
  refine lv_iconst (v := (3 : Int32)) hx hb dM_init_41 (by decide) ?_
  refine lv_bipush (v := (67 : Int32)) hx hb dM_init_42 (by decide) ?_
  refine va_iast hx hb hK hP hD hS 3 2 rfl rfl (by unfold vp_in; decide) dM_init_44 (fun H locs hP hD hS => ?_)
  have hP : va_P (dC, dI) vwCl [(h0, .inr (1, [.ref q1, .ref q2, .null, .null])), (q1, .inl (k1, 16, .inl (fun _ => 0))), (q2, .inl (k2, 96, .inl (fun _ => 0))), (q3, .inl (k3, 56, .inl (ltS 4)))] H := hP
  have hD : va_D A [(h0, .inr (1, [.ref q1, .ref q2, .null, .null])), (q1, .inl (k1, 16, .inl (fun _ => 0))), (q2, .inl (k2, 96, .inl (fun _ => 0))), (q3, .inl (k3, 56, .inl (ltS 4)))] := hD
  refine lv_dup hx hb dM_init_45 rfl ?_
  refine lv_iconst (v := (4 : Int32)) hx hb dM_init_46 (by decide) ?_
  refine lv_bipush (v := (68 : Int32)) hx hb dM_init_47 (by decide) ?_
  refine va_iast hx hb hK hP hD hS 3 2 rfl rfl (by unfold vp_in; decide) dM_init_49 (fun H locs hP hD hS => ?_)
  have hP : va_P (dC, dI) vwCl [(h0, .inr (1, [.ref q1, .ref q2, .null, .null])), (q1, .inl (k1, 16, .inl (fun _ => 0))), (q2, .inl (k2, 96, .inl (fun _ => 0))), (q3, .inl (k3, 56, .inl (ltS 5)))] H := hP
  have hD : va_D A [(h0, .inr (1, [.ref q1, .ref q2, .null, .null])), (q1, .inl (k1, 16, .inl (fun _ => 0))), (q2, .inl (k2, 96, .inl (fun _ => 0))), (q3, .inl (k3, 56, .inl (ltS 5)))] := hD
  refine lv_dup hx hb dM_init_50 rfl ?_
  refine lv_iconst (v := (5 : Int32)) hx hb dM_init_51 (by decide) ?_
  refine lv_bipush (v := (69 : Int32)) hx hb dM_init_52 (by decide) ?_
  refine va_iast hx hb hK hP hD hS 3 2 rfl rfl (by unfold vp_in; decide) dM_init_54 (fun H locs hP hD hS => ?_)
  have hP : va_P (dC, dI) vwCl [(h0, .inr (1, [.ref q1, .ref q2, .null, .null])), (q1, .inl (k1, 16, .inl (fun _ => 0))), (q2, .inl (k2, 96, .inl (fun _ => 0))), (q3, .inl (k3, 56, .inl (ltS 6)))] H := hP
  have hD : va_D A [(h0, .inr (1, [.ref q1, .ref q2, .null, .null])), (q1, .inl (k1, 16, .inl (fun _ => 0))), (q2, .inl (k2, 96, .inl (fun _ => 0))), (q3, .inl (k3, 56, .inl (ltS 6)))] := hD
  refine lv_dup hx hb dM_init_55 rfl ?_
  refine lv_bipush (v := (6 : Int32)) hx hb dM_init_56 (by decide) ?_
  refine lv_bipush (v := (70 : Int32)) hx hb dM_init_58 (by decide) ?_
  refine va_iast hx hb hK hP hD hS 3 2 rfl rfl (by unfold vp_in; decide) dM_init_60 (fun H locs hP hD hS => ?_)
  have hP : va_P (dC, dI) vwCl [(h0, .inr (1, [.ref q1, .ref q2, .null, .null])), (q1, .inl (k1, 16, .inl (fun _ => 0))), (q2, .inl (k2, 96, .inl (fun _ => 0))), (q3, .inl (k3, 56, .inl (ltS 7)))] H := hP
  have hD : va_D A [(h0, .inr (1, [.ref q1, .ref q2, .null, .null])), (q1, .inl (k1, 16, .inl (fun _ => 0))), (q2, .inl (k2, 96, .inl (fun _ => 0))), (q3, .inl (k3, 56, .inl (ltS 7)))] := hD
  refine lv_dup hx hb dM_init_61 rfl ?_
  refine lv_bipush (v := (7 : Int32)) hx hb dM_init_62 (by decide) ?_
  refine lv_bipush (v := (71 : Int32)) hx hb dM_init_64 (by decide) ?_
  refine va_iast hx hb hK hP hD hS 3 2 rfl rfl (by unfold vp_in; decide) dM_init_66 (fun H locs hP hD hS => ?_)
  have hP : va_P (dC, dI) vwCl [(h0, .inr (1, [.ref q1, .ref q2, .null, .null])), (q1, .inl (k1, 16, .inl (fun _ => 0))), (q2, .inl (k2, 96, .inl (fun _ => 0))), (q3, .inl (k3, 56, .inl (ltS 8)))] H := hP
  have hD : va_D A [(h0, .inr (1, [.ref q1, .ref q2, .null, .null])), (q1, .inl (k1, 16, .inl (fun _ => 0))), (q2, .inl (k2, 96, .inl (fun _ => 0))), (q3, .inl (k3, 56, .inl (ltS 8)))] := hD
  refine lv_dup hx hb dM_init_67 rfl ?_
  refine lv_bipush (v := (8 : Int32)) hx hb dM_init_68 (by decide) ?_
  refine lv_bipush (v := (72 : Int32)) hx hb dM_init_70 (by decide) ?_
  refine va_iast hx hb hK hP hD hS 3 2 rfl rfl (by unfold vp_in; decide) dM_init_72 (fun H locs hP hD hS => ?_)
  have hP : va_P (dC, dI) vwCl [(h0, .inr (1, [.ref q1, .ref q2, .null, .null])), (q1, .inl (k1, 16, .inl (fun _ => 0))), (q2, .inl (k2, 96, .inl (fun _ => 0))), (q3, .inl (k3, 56, .inl (ltS 9)))] H := hP
  have hD : va_D A [(h0, .inr (1, [.ref q1, .ref q2, .null, .null])), (q1, .inl (k1, 16, .inl (fun _ => 0))), (q2, .inl (k2, 96, .inl (fun _ => 0))), (q3, .inl (k3, 56, .inl (ltS 9)))] := hD
  refine lv_dup hx hb dM_init_73 rfl ?_
  refine lv_bipush (v := (9 : Int32)) hx hb dM_init_74 (by decide) ?_
  refine lv_bipush (v := (73 : Int32)) hx hb dM_init_76 (by decide) ?_
  refine va_iast hx hb hK hP hD hS 3 2 rfl rfl (by unfold vp_in; decide) dM_init_78 (fun H locs hP hD hS => ?_)
  have hP : va_P (dC, dI) vwCl [(h0, .inr (1, [.ref q1, .ref q2, .null, .null])), (q1, .inl (k1, 16, .inl (fun _ => 0))), (q2, .inl (k2, 96, .inl (fun _ => 0))), (q3, .inl (k3, 56, .inl (ltS 10)))] H := hP
  have hD : va_D A [(h0, .inr (1, [.ref q1, .ref q2, .null, .null])), (q1, .inl (k1, 16, .inl (fun _ => 0))), (q2, .inl (k2, 96, .inl (fun _ => 0))), (q3, .inl (k3, 56, .inl (ltS 10)))] := hD
  refine lv_dup hx hb dM_init_79 rfl ?_
  refine lv_bipush (v := (10 : Int32)) hx hb dM_init_80 (by decide) ?_
  refine lv_bipush (v := (126 : Int32)) hx hb dM_init_82 (by decide) ?_
  refine va_iast hx hb hK hP hD hS 3 2 rfl rfl (by unfold vp_in; decide) dM_init_84 (fun H locs hP hD hS => ?_)
  have hP : va_P (dC, dI) vwCl [(h0, .inr (1, [.ref q1, .ref q2, .null, .null])), (q1, .inl (k1, 16, .inl (fun _ => 0))), (q2, .inl (k2, 96, .inl (fun _ => 0))), (q3, .inl (k3, 56, .inl (ltS 11)))] H := hP
  have hD : va_D A [(h0, .inr (1, [.ref q1, .ref q2, .null, .null])), (q1, .inl (k1, 16, .inl (fun _ => 0))), (q2, .inl (k2, 96, .inl (fun _ => 0))), (q3, .inl (k3, 56, .inl (ltS 11)))] := hD
  refine lv_dup hx hb dM_init_85 rfl ?_
  refine lv_bipush (v := (11 : Int32)) hx hb dM_init_86 (by decide) ?_
  refine lv_bipush (v := (74 : Int32)) hx hb dM_init_88 (by decide) ?_
  refine va_iast hx hb hK hP hD hS 3 2 rfl rfl (by unfold vp_in; decide) dM_init_90 (fun H locs hP hD hS => ?_)
  have hP : va_P (dC, dI) vwCl [(h0, .inr (1, [.ref q1, .ref q2, .null, .null])), (q1, .inl (k1, 16, .inl (fun _ => 0))), (q2, .inl (k2, 96, .inl (fun _ => 0))), (q3, .inl (k3, 56, .inl (ltS 12)))] H := hP
  have hD : va_D A [(h0, .inr (1, [.ref q1, .ref q2, .null, .null])), (q1, .inl (k1, 16, .inl (fun _ => 0))), (q2, .inl (k2, 96, .inl (fun _ => 0))), (q3, .inl (k3, 56, .inl (ltS 12)))] := hD
  refine lv_dup hx hb dM_init_91 rfl ?_
  refine lv_bipush (v := (12 : Int32)) hx hb dM_init_92 (by decide) ?_
  refine lv_bipush (v := (75 : Int32)) hx hb dM_init_94 (by decide) ?_
  refine va_iast hx hb hK hP hD hS 3 2 rfl rfl (by unfold vp_in; decide) dM_init_96 (fun H locs hP hD hS => ?_)
  have hP : va_P (dC, dI) vwCl [(h0, .inr (1, [.ref q1, .ref q2, .null, .null])), (q1, .inl (k1, 16, .inl (fun _ => 0))), (q2, .inl (k2, 96, .inl (fun _ => 0))), (q3, .inl (k3, 56, .inl (ltS 13)))] H := hP
  have hD : va_D A [(h0, .inr (1, [.ref q1, .ref q2, .null, .null])), (q1, .inl (k1, 16, .inl (fun _ => 0))), (q2, .inl (k2, 96, .inl (fun _ => 0))), (q3, .inl (k3, 56, .inl (ltS 13)))] := hD
  refine lv_dup hx hb dM_init_97 rfl ?_
  refine lv_bipush (v := (13 : Int32)) hx hb dM_init_98 (by decide) ?_
  refine lv_bipush (v := (76 : Int32)) hx hb dM_init_100 (by decide) ?_
  refine va_iast hx hb hK hP hD hS 3 2 rfl rfl (by unfold vp_in; decide) dM_init_102 (fun H locs hP hD hS => ?_)
  have hP : va_P (dC, dI) vwCl [(h0, .inr (1, [.ref q1, .ref q2, .null, .null])), (q1, .inl (k1, 16, .inl (fun _ => 0))), (q2, .inl (k2, 96, .inl (fun _ => 0))), (q3, .inl (k3, 56, .inl (ltS 14)))] H := hP
  have hD : va_D A [(h0, .inr (1, [.ref q1, .ref q2, .null, .null])), (q1, .inl (k1, 16, .inl (fun _ => 0))), (q2, .inl (k2, 96, .inl (fun _ => 0))), (q3, .inl (k3, 56, .inl (ltS 14)))] := hD
  refine lv_dup hx hb dM_init_103 rfl ?_
  refine lv_bipush (v := (14 : Int32)) hx hb dM_init_104 (by decide) ?_
  refine lv_bipush (v := (77 : Int32)) hx hb dM_init_106 (by decide) ?_
  refine va_iast hx hb hK hP hD hS 3 2 rfl rfl (by unfold vp_in; decide) dM_init_108 (fun H locs hP hD hS => ?_)
  have hP : va_P (dC, dI) vwCl [(h0, .inr (1, [.ref q1, .ref q2, .null, .null])), (q1, .inl (k1, 16, .inl (fun _ => 0))), (q2, .inl (k2, 96, .inl (fun _ => 0))), (q3, .inl (k3, 56, .inl (ltS 15)))] H := hP
  have hD : va_D A [(h0, .inr (1, [.ref q1, .ref q2, .null, .null])), (q1, .inl (k1, 16, .inl (fun _ => 0))), (q2, .inl (k2, 96, .inl (fun _ => 0))), (q3, .inl (k3, 56, .inl (ltS 15)))] := hD
  refine lv_dup hx hb dM_init_109 rfl ?_
  refine lv_bipush (v := (15 : Int32)) hx hb dM_init_110 (by decide) ?_
  refine lv_bipush (v := (78 : Int32)) hx hb dM_init_112 (by decide) ?_
  refine va_iast hx hb hK hP hD hS 3 2 rfl rfl (by unfold vp_in; decide) dM_init_114 (fun H locs hP hD hS => ?_)
  have hP : va_P (dC, dI) vwCl [(h0, .inr (1, [.ref q1, .ref q2, .null, .null])), (q1, .inl (k1, 16, .inl (fun _ => 0))), (q2, .inl (k2, 96, .inl (fun _ => 0))), (q3, .inl (k3, 56, .inl (ltS 16)))] H := hP
  have hD : va_D A [(h0, .inr (1, [.ref q1, .ref q2, .null, .null])), (q1, .inl (k1, 16, .inl (fun _ => 0))), (q2, .inl (k2, 96, .inl (fun _ => 0))), (q3, .inl (k3, 56, .inl (ltS 16)))] := hD
  refine lv_dup hx hb dM_init_115 rfl ?_
  refine lv_bipush (v := (16 : Int32)) hx hb dM_init_116 (by decide) ?_
  refine lv_bipush (v := (79 : Int32)) hx hb dM_init_118 (by decide) ?_
  refine va_iast hx hb hK hP hD hS 3 2 rfl rfl (by unfold vp_in; decide) dM_init_120 (fun H locs hP hD hS => ?_)
  have hP : va_P (dC, dI) vwCl [(h0, .inr (1, [.ref q1, .ref q2, .null, .null])), (q1, .inl (k1, 16, .inl (fun _ => 0))), (q2, .inl (k2, 96, .inl (fun _ => 0))), (q3, .inl (k3, 56, .inl (ltS 17)))] H := hP
  have hD : va_D A [(h0, .inr (1, [.ref q1, .ref q2, .null, .null])), (q1, .inl (k1, 16, .inl (fun _ => 0))), (q2, .inl (k2, 96, .inl (fun _ => 0))), (q3, .inl (k3, 56, .inl (ltS 17)))] := hD
  refine lv_dup hx hb dM_init_121 rfl ?_
  refine lv_bipush (v := (17 : Int32)) hx hb dM_init_122 (by decide) ?_
  refine lv_bipush (v := (80 : Int32)) hx hb dM_init_124 (by decide) ?_
  refine va_iast hx hb hK hP hD hS 3 2 rfl rfl (by unfold vp_in; decide) dM_init_126 (fun H locs hP hD hS => ?_)
  have hP : va_P (dC, dI) vwCl [(h0, .inr (1, [.ref q1, .ref q2, .null, .null])), (q1, .inl (k1, 16, .inl (fun _ => 0))), (q2, .inl (k2, 96, .inl (fun _ => 0))), (q3, .inl (k3, 56, .inl (ltS 18)))] H := hP
  have hD : va_D A [(h0, .inr (1, [.ref q1, .ref q2, .null, .null])), (q1, .inl (k1, 16, .inl (fun _ => 0))), (q2, .inl (k2, 96, .inl (fun _ => 0))), (q3, .inl (k3, 56, .inl (ltS 18)))] := hD
  refine lv_dup hx hb dM_init_127 rfl ?_
  refine lv_bipush (v := (18 : Int32)) hx hb dM_init_128 (by decide) ?_
  refine lv_bipush (v := (81 : Int32)) hx hb dM_init_130 (by decide) ?_
  refine va_iast hx hb hK hP hD hS 3 2 rfl rfl (by unfold vp_in; decide) dM_init_132 (fun H locs hP hD hS => ?_)
  have hP : va_P (dC, dI) vwCl [(h0, .inr (1, [.ref q1, .ref q2, .null, .null])), (q1, .inl (k1, 16, .inl (fun _ => 0))), (q2, .inl (k2, 96, .inl (fun _ => 0))), (q3, .inl (k3, 56, .inl (ltS 19)))] H := hP
  have hD : va_D A [(h0, .inr (1, [.ref q1, .ref q2, .null, .null])), (q1, .inl (k1, 16, .inl (fun _ => 0))), (q2, .inl (k2, 96, .inl (fun _ => 0))), (q3, .inl (k3, 56, .inl (ltS 19)))] := hD
  refine lv_dup hx hb dM_init_133 rfl ?_
  refine lv_bipush (v := (19 : Int32)) hx hb dM_init_134 (by decide) ?_
  refine lv_bipush (v := (82 : Int32)) hx hb dM_init_136 (by decide) ?_
  refine va_iast hx hb hK hP hD hS 3 2 rfl rfl (by unfold vp_in; decide) dM_init_138 (fun H locs hP hD hS => ?_)
  have hP : va_P (dC, dI) vwCl [(h0, .inr (1, [.ref q1, .ref q2, .null, .null])), (q1, .inl (k1, 16, .inl (fun _ => 0))), (q2, .inl (k2, 96, .inl (fun _ => 0))), (q3, .inl (k3, 56, .inl (ltS 20)))] H := hP
  have hD : va_D A [(h0, .inr (1, [.ref q1, .ref q2, .null, .null])), (q1, .inl (k1, 16, .inl (fun _ => 0))), (q2, .inl (k2, 96, .inl (fun _ => 0))), (q3, .inl (k3, 56, .inl (ltS 20)))] := hD
  refine lv_dup hx hb dM_init_139 rfl ?_
  refine lv_bipush (v := (20 : Int32)) hx hb dM_init_140 (by decide) ?_
  refine lv_bipush (v := (91 : Int32)) hx hb dM_init_142 (by decide) ?_
  refine va_iast hx hb hK hP hD hS 3 2 rfl rfl (by unfold vp_in; decide) dM_init_144 (fun H locs hP hD hS => ?_)
  have hP : va_P (dC, dI) vwCl [(h0, .inr (1, [.ref q1, .ref q2, .null, .null])), (q1, .inl (k1, 16, .inl (fun _ => 0))), (q2, .inl (k2, 96, .inl (fun _ => 0))), (q3, .inl (k3, 56, .inl (ltS 21)))] H := hP
  have hD : va_D A [(h0, .inr (1, [.ref q1, .ref q2, .null, .null])), (q1, .inl (k1, 16, .inl (fun _ => 0))), (q2, .inl (k2, 96, .inl (fun _ => 0))), (q3, .inl (k3, 56, .inl (ltS 21)))] := hD
  refine lv_dup hx hb dM_init_145 rfl ?_
  refine lv_bipush (v := (21 : Int32)) hx hb dM_init_146 (by decide) ?_
  refine lv_bipush (v := (35 : Int32)) hx hb dM_init_148 (by decide) ?_
  refine va_iast hx hb hK hP hD hS 3 2 rfl rfl (by unfold vp_in; decide) dM_init_150 (fun H locs hP hD hS => ?_)
  have hP : va_P (dC, dI) vwCl [(h0, .inr (1, [.ref q1, .ref q2, .null, .null])), (q1, .inl (k1, 16, .inl (fun _ => 0))), (q2, .inl (k2, 96, .inl (fun _ => 0))), (q3, .inl (k3, 56, .inl (ltS 22)))] H := hP
  have hD : va_D A [(h0, .inr (1, [.ref q1, .ref q2, .null, .null])), (q1, .inl (k1, 16, .inl (fun _ => 0))), (q2, .inl (k2, 96, .inl (fun _ => 0))), (q3, .inl (k3, 56, .inl (ltS 22)))] := hD
  refine lv_dup hx hb dM_init_151 rfl ?_
  refine lv_bipush (v := (22 : Int32)) hx hb dM_init_152 (by decide) ?_
  refine lv_bipush (v := (83 : Int32)) hx hb dM_init_154 (by decide) ?_
  refine va_iast hx hb hK hP hD hS 3 2 rfl rfl (by unfold vp_in; decide) dM_init_156 (fun H locs hP hD hS => ?_)
  have hP : va_P (dC, dI) vwCl [(h0, .inr (1, [.ref q1, .ref q2, .null, .null])), (q1, .inl (k1, 16, .inl (fun _ => 0))), (q2, .inl (k2, 96, .inl (fun _ => 0))), (q3, .inl (k3, 56, .inl (ltS 23)))] H := hP
  have hD : va_D A [(h0, .inr (1, [.ref q1, .ref q2, .null, .null])), (q1, .inl (k1, 16, .inl (fun _ => 0))), (q2, .inl (k2, 96, .inl (fun _ => 0))), (q3, .inl (k3, 56, .inl (ltS 23)))] := hD
  refine lv_dup hx hb dM_init_157 rfl ?_
  refine lv_bipush (v := (23 : Int32)) hx hb dM_init_158 (by decide) ?_
  refine lv_bipush (v := (84 : Int32)) hx hb dM_init_160 (by decide) ?_
  refine va_iast hx hb hK hP hD hS 3 2 rfl rfl (by unfold vp_in; decide) dM_init_162 (fun H locs hP hD hS => ?_)
  have hP : va_P (dC, dI) vwCl [(h0, .inr (1, [.ref q1, .ref q2, .null, .null])), (q1, .inl (k1, 16, .inl (fun _ => 0))), (q2, .inl (k2, 96, .inl (fun _ => 0))), (q3, .inl (k3, 56, .inl (ltS 24)))] H := hP
  have hD : va_D A [(h0, .inr (1, [.ref q1, .ref q2, .null, .null])), (q1, .inl (k1, 16, .inl (fun _ => 0))), (q2, .inl (k2, 96, .inl (fun _ => 0))), (q3, .inl (k3, 56, .inl (ltS 24)))] := hD
  refine lv_dup hx hb dM_init_163 rfl ?_
  refine lv_bipush (v := (24 : Int32)) hx hb dM_init_164 (by decide) ?_
  refine lv_bipush (v := (85 : Int32)) hx hb dM_init_166 (by decide) ?_
  refine va_iast hx hb hK hP hD hS 3 2 rfl rfl (by unfold vp_in; decide) dM_init_168 (fun H locs hP hD hS => ?_)
  have hP : va_P (dC, dI) vwCl [(h0, .inr (1, [.ref q1, .ref q2, .null, .null])), (q1, .inl (k1, 16, .inl (fun _ => 0))), (q2, .inl (k2, 96, .inl (fun _ => 0))), (q3, .inl (k3, 56, .inl (ltS 25)))] H := hP
  have hD : va_D A [(h0, .inr (1, [.ref q1, .ref q2, .null, .null])), (q1, .inl (k1, 16, .inl (fun _ => 0))), (q2, .inl (k2, 96, .inl (fun _ => 0))), (q3, .inl (k3, 56, .inl (ltS 25)))] := hD
  refine lv_dup hx hb dM_init_169 rfl ?_
  refine lv_bipush (v := (25 : Int32)) hx hb dM_init_170 (by decide) ?_
  refine lv_bipush (v := (86 : Int32)) hx hb dM_init_172 (by decide) ?_
  refine va_iast hx hb hK hP hD hS 3 2 rfl rfl (by unfold vp_in; decide) dM_init_174 (fun H locs hP hD hS => ?_)
  have hP : va_P (dC, dI) vwCl [(h0, .inr (1, [.ref q1, .ref q2, .null, .null])), (q1, .inl (k1, 16, .inl (fun _ => 0))), (q2, .inl (k2, 96, .inl (fun _ => 0))), (q3, .inl (k3, 56, .inl (ltS 26)))] H := hP
  have hD : va_D A [(h0, .inr (1, [.ref q1, .ref q2, .null, .null])), (q1, .inl (k1, 16, .inl (fun _ => 0))), (q2, .inl (k2, 96, .inl (fun _ => 0))), (q3, .inl (k3, 56, .inl (ltS 26)))] := hD
  refine lv_dup hx hb dM_init_175 rfl ?_
  refine lv_bipush (v := (26 : Int32)) hx hb dM_init_176 (by decide) ?_
  refine lv_bipush (v := (87 : Int32)) hx hb dM_init_178 (by decide) ?_
  refine va_iast hx hb hK hP hD hS 3 2 rfl rfl (by unfold vp_in; decide) dM_init_180 (fun H locs hP hD hS => ?_)
  have hP : va_P (dC, dI) vwCl [(h0, .inr (1, [.ref q1, .ref q2, .null, .null])), (q1, .inl (k1, 16, .inl (fun _ => 0))), (q2, .inl (k2, 96, .inl (fun _ => 0))), (q3, .inl (k3, 56, .inl (ltS 27)))] H := hP
  have hD : va_D A [(h0, .inr (1, [.ref q1, .ref q2, .null, .null])), (q1, .inl (k1, 16, .inl (fun _ => 0))), (q2, .inl (k2, 96, .inl (fun _ => 0))), (q3, .inl (k3, 56, .inl (ltS 27)))] := hD
  refine lv_dup hx hb dM_init_181 rfl ?_
  refine lv_bipush (v := (27 : Int32)) hx hb dM_init_182 (by decide) ?_
  refine lv_bipush (v := (88 : Int32)) hx hb dM_init_184 (by decide) ?_
  refine va_iast hx hb hK hP hD hS 3 2 rfl rfl (by unfold vp_in; decide) dM_init_186 (fun H locs hP hD hS => ?_)
  have hP : va_P (dC, dI) vwCl [(h0, .inr (1, [.ref q1, .ref q2, .null, .null])), (q1, .inl (k1, 16, .inl (fun _ => 0))), (q2, .inl (k2, 96, .inl (fun _ => 0))), (q3, .inl (k3, 56, .inl (ltS 28)))] H := hP
  have hD : va_D A [(h0, .inr (1, [.ref q1, .ref q2, .null, .null])), (q1, .inl (k1, 16, .inl (fun _ => 0))), (q2, .inl (k2, 96, .inl (fun _ => 0))), (q3, .inl (k3, 56, .inl (ltS 28)))] := hD
  refine lv_dup hx hb dM_init_187 rfl ?_
  refine lv_bipush (v := (28 : Int32)) hx hb dM_init_188 (by decide) ?_
  refine lv_bipush (v := (89 : Int32)) hx hb dM_init_190 (by decide) ?_
  refine va_iast hx hb hK hP hD hS 3 2 rfl rfl (by unfold vp_in; decide) dM_init_192 (fun H locs hP hD hS => ?_)
  have hP : va_P (dC, dI) vwCl [(h0, .inr (1, [.ref q1, .ref q2, .null, .null])), (q1, .inl (k1, 16, .inl (fun _ => 0))), (q2, .inl (k2, 96, .inl (fun _ => 0))), (q3, .inl (k3, 56, .inl (ltS 29)))] H := hP
  have hD : va_D A [(h0, .inr (1, [.ref q1, .ref q2, .null, .null])), (q1, .inl (k1, 16, .inl (fun _ => 0))), (q2, .inl (k2, 96, .inl (fun _ => 0))), (q3, .inl (k3, 56, .inl (ltS 29)))] := hD
  refine lv_dup hx hb dM_init_193 rfl ?_
  refine lv_bipush (v := (29 : Int32)) hx hb dM_init_194 (by decide) ?_
  refine lv_bipush (v := (90 : Int32)) hx hb dM_init_196 (by decide) ?_
  refine va_iast hx hb hK hP hD hS 3 2 rfl rfl (by unfold vp_in; decide) dM_init_198 (fun H locs hP hD hS => ?_)
  have hP : va_P (dC, dI) vwCl [(h0, .inr (1, [.ref q1, .ref q2, .null, .null])), (q1, .inl (k1, 16, .inl (fun _ => 0))), (q2, .inl (k2, 96, .inl (fun _ => 0))), (q3, .inl (k3, 56, .inl (ltS 30)))] H := hP
  have hD : va_D A [(h0, .inr (1, [.ref q1, .ref q2, .null, .null])), (q1, .inl (k1, 16, .inl (fun _ => 0))), (q2, .inl (k2, 96, .inl (fun _ => 0))), (q3, .inl (k3, 56, .inl (ltS 30)))] := hD
  refine lv_dup hx hb dM_init_199 rfl ?_
  refine lv_bipush (v := (30 : Int32)) hx hb dM_init_200 (by decide) ?_
  refine lv_bipush (v := (48 : Int32)) hx hb dM_init_202 (by decide) ?_
  refine va_iast hx hb hK hP hD hS 3 2 rfl rfl (by unfold vp_in; decide) dM_init_204 (fun H locs hP hD hS => ?_)
  have hP : va_P (dC, dI) vwCl [(h0, .inr (1, [.ref q1, .ref q2, .null, .null])), (q1, .inl (k1, 16, .inl (fun _ => 0))), (q2, .inl (k2, 96, .inl (fun _ => 0))), (q3, .inl (k3, 56, .inl (ltS 31)))] H := hP
  have hD : va_D A [(h0, .inr (1, [.ref q1, .ref q2, .null, .null])), (q1, .inl (k1, 16, .inl (fun _ => 0))), (q2, .inl (k2, 96, .inl (fun _ => 0))), (q3, .inl (k3, 56, .inl (ltS 31)))] := hD
  refine lv_dup hx hb dM_init_205 rfl ?_
  refine lv_bipush (v := (31 : Int32)) hx hb dM_init_206 (by decide) ?_
  refine lv_bipush (v := (49 : Int32)) hx hb dM_init_208 (by decide) ?_
  refine va_iast hx hb hK hP hD hS 3 2 rfl rfl (by unfold vp_in; decide) dM_init_210 (fun H locs hP hD hS => ?_)
  have hP : va_P (dC, dI) vwCl [(h0, .inr (1, [.ref q1, .ref q2, .null, .null])), (q1, .inl (k1, 16, .inl (fun _ => 0))), (q2, .inl (k2, 96, .inl (fun _ => 0))), (q3, .inl (k3, 56, .inl (ltS 32)))] H := hP
  have hD : va_D A [(h0, .inr (1, [.ref q1, .ref q2, .null, .null])), (q1, .inl (k1, 16, .inl (fun _ => 0))), (q2, .inl (k2, 96, .inl (fun _ => 0))), (q3, .inl (k3, 56, .inl (ltS 32)))] := hD
  refine lv_dup hx hb dM_init_211 rfl ?_
  refine lv_bipush (v := (32 : Int32)) hx hb dM_init_212 (by decide) ?_
  refine lv_bipush (v := (50 : Int32)) hx hb dM_init_214 (by decide) ?_
  refine va_iast hx hb hK hP hD hS 3 2 rfl rfl (by unfold vp_in; decide) dM_init_216 (fun H locs hP hD hS => ?_)
  have hP : va_P (dC, dI) vwCl [(h0, .inr (1, [.ref q1, .ref q2, .null, .null])), (q1, .inl (k1, 16, .inl (fun _ => 0))), (q2, .inl (k2, 96, .inl (fun _ => 0))), (q3, .inl (k3, 56, .inl (ltS 33)))] H := hP
  have hD : va_D A [(h0, .inr (1, [.ref q1, .ref q2, .null, .null])), (q1, .inl (k1, 16, .inl (fun _ => 0))), (q2, .inl (k2, 96, .inl (fun _ => 0))), (q3, .inl (k3, 56, .inl (ltS 33)))] := hD
  refine lv_dup hx hb dM_init_217 rfl ?_
  refine lv_bipush (v := (33 : Int32)) hx hb dM_init_218 (by decide) ?_
  refine lv_bipush (v := (51 : Int32)) hx hb dM_init_220 (by decide) ?_
  refine va_iast hx hb hK hP hD hS 3 2 rfl rfl (by unfold vp_in; decide) dM_init_222 (fun H locs hP hD hS => ?_)
  have hP : va_P (dC, dI) vwCl [(h0, .inr (1, [.ref q1, .ref q2, .null, .null])), (q1, .inl (k1, 16, .inl (fun _ => 0))), (q2, .inl (k2, 96, .inl (fun _ => 0))), (q3, .inl (k3, 56, .inl (ltS 34)))] H := hP
  have hD : va_D A [(h0, .inr (1, [.ref q1, .ref q2, .null, .null])), (q1, .inl (k1, 16, .inl (fun _ => 0))), (q2, .inl (k2, 96, .inl (fun _ => 0))), (q3, .inl (k3, 56, .inl (ltS 34)))] := hD
  refine lv_dup hx hb dM_init_223 rfl ?_
  refine lv_bipush (v := (34 : Int32)) hx hb dM_init_224 (by decide) ?_
  refine lv_bipush (v := (52 : Int32)) hx hb dM_init_226 (by decide) ?_
  refine va_iast hx hb hK hP hD hS 3 2 rfl rfl (by unfold vp_in; decide) dM_init_228 (fun H locs hP hD hS => ?_)
  have hP : va_P (dC, dI) vwCl [(h0, .inr (1, [.ref q1, .ref q2, .null, .null])), (q1, .inl (k1, 16, .inl (fun _ => 0))), (q2, .inl (k2, 96, .inl (fun _ => 0))), (q3, .inl (k3, 56, .inl (ltS 35)))] H := hP
  have hD : va_D A [(h0, .inr (1, [.ref q1, .ref q2, .null, .null])), (q1, .inl (k1, 16, .inl (fun _ => 0))), (q2, .inl (k2, 96, .inl (fun _ => 0))), (q3, .inl (k3, 56, .inl (ltS 35)))] := hD
  refine lv_dup hx hb dM_init_229 rfl ?_
  refine lv_bipush (v := (35 : Int32)) hx hb dM_init_230 (by decide) ?_
  refine lv_bipush (v := (53 : Int32)) hx hb dM_init_232 (by decide) ?_
  refine va_iast hx hb hK hP hD hS 3 2 rfl rfl (by unfold vp_in; decide) dM_init_234 (fun H locs hP hD hS => ?_)
  have hP : va_P (dC, dI) vwCl [(h0, .inr (1, [.ref q1, .ref q2, .null, .null])), (q1, .inl (k1, 16, .inl (fun _ => 0))), (q2, .inl (k2, 96, .inl (fun _ => 0))), (q3, .inl (k3, 56, .inl (ltS 36)))] H := hP
  have hD : va_D A [(h0, .inr (1, [.ref q1, .ref q2, .null, .null])), (q1, .inl (k1, 16, .inl (fun _ => 0))), (q2, .inl (k2, 96, .inl (fun _ => 0))), (q3, .inl (k3, 56, .inl (ltS 36)))] := hD
  refine lv_dup hx hb dM_init_235 rfl ?_
  refine lv_bipush (v := (36 : Int32)) hx hb dM_init_236 (by decide) ?_
  refine lv_bipush (v := (54 : Int32)) hx hb dM_init_238 (by decide) ?_
  refine va_iast hx hb hK hP hD hS 3 2 rfl rfl (by unfold vp_in; decide) dM_init_240 (fun H locs hP hD hS => ?_)
  have hP : va_P (dC, dI) vwCl [(h0, .inr (1, [.ref q1, .ref q2, .null, .null])), (q1, .inl (k1, 16, .inl (fun _ => 0))), (q2, .inl (k2, 96, .inl (fun _ => 0))), (q3, .inl (k3, 56, .inl (ltS 37)))] H := hP
  have hD : va_D A [(h0, .inr (1, [.ref q1, .ref q2, .null, .null])), (q1, .inl (k1, 16, .inl (fun _ => 0))), (q2, .inl (k2, 96, .inl (fun _ => 0))), (q3, .inl (k3, 56, .inl (ltS 37)))] := hD
  refine lv_dup hx hb dM_init_241 rfl ?_
  refine lv_bipush (v := (37 : Int32)) hx hb dM_init_242 (by decide) ?_
  refine lv_bipush (v := (55 : Int32)) hx hb dM_init_244 (by decide) ?_
  refine va_iast hx hb hK hP hD hS 3 2 rfl rfl (by unfold vp_in; decide) dM_init_246 (fun H locs hP hD hS => ?_)
  have hP : va_P (dC, dI) vwCl [(h0, .inr (1, [.ref q1, .ref q2, .null, .null])), (q1, .inl (k1, 16, .inl (fun _ => 0))), (q2, .inl (k2, 96, .inl (fun _ => 0))), (q3, .inl (k3, 56, .inl (ltS 38)))] H := hP
  have hD : va_D A [(h0, .inr (1, [.ref q1, .ref q2, .null, .null])), (q1, .inl (k1, 16, .inl (fun _ => 0))), (q2, .inl (k2, 96, .inl (fun _ => 0))), (q3, .inl (k3, 56, .inl (ltS 38)))] := hD
  refine lv_dup hx hb dM_init_247 rfl ?_
  refine lv_bipush (v := (38 : Int32)) hx hb dM_init_248 (by decide) ?_
  refine lv_bipush (v := (56 : Int32)) hx hb dM_init_250 (by decide) ?_
  refine va_iast hx hb hK hP hD hS 3 2 rfl rfl (by unfold vp_in; decide) dM_init_252 (fun H locs hP hD hS => ?_)
  have hP : va_P (dC, dI) vwCl [(h0, .inr (1, [.ref q1, .ref q2, .null, .null])), (q1, .inl (k1, 16, .inl (fun _ => 0))), (q2, .inl (k2, 96, .inl (fun _ => 0))), (q3, .inl (k3, 56, .inl (ltS 39)))] H := hP
  have hD : va_D A [(h0, .inr (1, [.ref q1, .ref q2, .null, .null])), (q1, .inl (k1, 16, .inl (fun _ => 0))), (q2, .inl (k2, 96, .inl (fun _ => 0))), (q3, .inl (k3, 56, .inl (ltS 39)))] := hD
  refine lv_dup hx hb dM_init_253 rfl ?_
  refine lv_bipush (v := (39 : Int32)) hx hb dM_init_254 (by decide) ?_
  refine lv_bipush (v := (57 : Int32)) hx hb dM_init_256 (by decide) ?_
  refine va_iast hx hb hK hP hD hS 3 2 rfl rfl (by unfold vp_in; decide) dM_init_258 (fun H locs hP hD hS => ?_)
  have hP : va_P (dC, dI) vwCl [(h0, .inr (1, [.ref q1, .ref q2, .null, .null])), (q1, .inl (k1, 16, .inl (fun _ => 0))), (q2, .inl (k2, 96, .inl (fun _ => 0))), (q3, .inl (k3, 56, .inl (ltS 40)))] H := hP
  have hD : va_D A [(h0, .inr (1, [.ref q1, .ref q2, .null, .null])), (q1, .inl (k1, 16, .inl (fun _ => 0))), (q2, .inl (k2, 96, .inl (fun _ => 0))), (q3, .inl (k3, 56, .inl (ltS 40)))] := hD
  refine lv_dup hx hb dM_init_259 rfl ?_
  refine lv_bipush (v := (40 : Int32)) hx hb dM_init_260 (by decide) ?_
  refine lv_bipush (v := (46 : Int32)) hx hb dM_init_262 (by decide) ?_
  refine va_iast hx hb hK hP hD hS 3 2 rfl rfl (by unfold vp_in; decide) dM_init_264 (fun H locs hP hD hS => ?_)
  have hP : va_P (dC, dI) vwCl [(h0, .inr (1, [.ref q1, .ref q2, .null, .null])), (q1, .inl (k1, 16, .inl (fun _ => 0))), (q2, .inl (k2, 96, .inl (fun _ => 0))), (q3, .inl (k3, 56, .inl (ltS 41)))] H := hP
  have hD : va_D A [(h0, .inr (1, [.ref q1, .ref q2, .null, .null])), (q1, .inl (k1, 16, .inl (fun _ => 0))), (q2, .inl (k2, 96, .inl (fun _ => 0))), (q3, .inl (k3, 56, .inl (ltS 41)))] := hD
  refine lv_dup hx hb dM_init_265 rfl ?_
  refine lv_bipush (v := (41 : Int32)) hx hb dM_init_266 (by decide) ?_
  refine lv_bipush (v := (44 : Int32)) hx hb dM_init_268 (by decide) ?_
  refine va_iast hx hb hK hP hD hS 3 2 rfl rfl (by unfold vp_in; decide) dM_init_270 (fun H locs hP hD hS => ?_)
  have hP : va_P (dC, dI) vwCl [(h0, .inr (1, [.ref q1, .ref q2, .null, .null])), (q1, .inl (k1, 16, .inl (fun _ => 0))), (q2, .inl (k2, 96, .inl (fun _ => 0))), (q3, .inl (k3, 56, .inl (ltS 42)))] H := hP
  have hD : va_D A [(h0, .inr (1, [.ref q1, .ref q2, .null, .null])), (q1, .inl (k1, 16, .inl (fun _ => 0))), (q2, .inl (k2, 96, .inl (fun _ => 0))), (q3, .inl (k3, 56, .inl (ltS 42)))] := hD
  refine lv_dup hx hb dM_init_271 rfl ?_
  refine lv_bipush (v := (42 : Int32)) hx hb dM_init_272 (by decide) ?_
  refine lv_bipush (v := (40 : Int32)) hx hb dM_init_274 (by decide) ?_
  refine va_iast hx hb hK hP hD hS 3 2 rfl rfl (by unfold vp_in; decide) dM_init_276 (fun H locs hP hD hS => ?_)
  have hP : va_P (dC, dI) vwCl [(h0, .inr (1, [.ref q1, .ref q2, .null, .null])), (q1, .inl (k1, 16, .inl (fun _ => 0))), (q2, .inl (k2, 96, .inl (fun _ => 0))), (q3, .inl (k3, 56, .inl (ltS 43)))] H := hP
  have hD : va_D A [(h0, .inr (1, [.ref q1, .ref q2, .null, .null])), (q1, .inl (k1, 16, .inl (fun _ => 0))), (q2, .inl (k2, 96, .inl (fun _ => 0))), (q3, .inl (k3, 56, .inl (ltS 43)))] := hD
  refine lv_dup hx hb dM_init_277 rfl ?_
  refine lv_bipush (v := (43 : Int32)) hx hb dM_init_278 (by decide) ?_
  refine lv_bipush (v := (41 : Int32)) hx hb dM_init_280 (by decide) ?_
  refine va_iast hx hb hK hP hD hS 3 2 rfl rfl (by unfold vp_in; decide) dM_init_282 (fun H locs hP hD hS => ?_)
  have hP : va_P (dC, dI) vwCl [(h0, .inr (1, [.ref q1, .ref q2, .null, .null])), (q1, .inl (k1, 16, .inl (fun _ => 0))), (q2, .inl (k2, 96, .inl (fun _ => 0))), (q3, .inl (k3, 56, .inl (ltS 44)))] H := hP
  have hD : va_D A [(h0, .inr (1, [.ref q1, .ref q2, .null, .null])), (q1, .inl (k1, 16, .inl (fun _ => 0))), (q2, .inl (k2, 96, .inl (fun _ => 0))), (q3, .inl (k3, 56, .inl (ltS 44)))] := hD
  refine lv_dup hx hb dM_init_283 rfl ?_
  refine lv_bipush (v := (44 : Int32)) hx hb dM_init_284 (by decide) ?_
  refine lv_bipush (v := (43 : Int32)) hx hb dM_init_286 (by decide) ?_
  refine va_iast hx hb hK hP hD hS 3 2 rfl rfl (by unfold vp_in; decide) dM_init_288 (fun H locs hP hD hS => ?_)
  have hP : va_P (dC, dI) vwCl [(h0, .inr (1, [.ref q1, .ref q2, .null, .null])), (q1, .inl (k1, 16, .inl (fun _ => 0))), (q2, .inl (k2, 96, .inl (fun _ => 0))), (q3, .inl (k3, 56, .inl (ltS 45)))] H := hP
  have hD : va_D A [(h0, .inr (1, [.ref q1, .ref q2, .null, .null])), (q1, .inl (k1, 16, .inl (fun _ => 0))), (q2, .inl (k2, 96, .inl (fun _ => 0))), (q3, .inl (k3, 56, .inl (ltS 45)))] := hD
  refine lv_dup hx hb dM_init_289 rfl ?_
  refine lv_bipush (v := (45 : Int32)) hx hb dM_init_290 (by decide) ?_
  refine lv_bipush (v := (45 : Int32)) hx hb dM_init_292 (by decide) ?_
  refine va_iast hx hb hK hP hD hS 3 2 rfl rfl (by unfold vp_in; decide) dM_init_294 (fun H locs hP hD hS => ?_)
  have hP : va_P (dC, dI) vwCl [(h0, .inr (1, [.ref q1, .ref q2, .null, .null])), (q1, .inl (k1, 16, .inl (fun _ => 0))), (q2, .inl (k2, 96, .inl (fun _ => 0))), (q3, .inl (k3, 56, .inl (ltS 46)))] H := hP
  have hD : va_D A [(h0, .inr (1, [.ref q1, .ref q2, .null, .null])), (q1, .inl (k1, 16, .inl (fun _ => 0))), (q2, .inl (k2, 96, .inl (fun _ => 0))), (q3, .inl (k3, 56, .inl (ltS 46)))] := hD
  refine lv_dup hx hb dM_init_295 rfl ?_
  refine lv_bipush (v := (46 : Int32)) hx hb dM_init_296 (by decide) ?_
  refine lv_bipush (v := (42 : Int32)) hx hb dM_init_298 (by decide) ?_
  refine va_iast hx hb hK hP hD hS 3 2 rfl rfl (by unfold vp_in; decide) dM_init_300 (fun H locs hP hD hS => ?_)
  have hP : va_P (dC, dI) vwCl [(h0, .inr (1, [.ref q1, .ref q2, .null, .null])), (q1, .inl (k1, 16, .inl (fun _ => 0))), (q2, .inl (k2, 96, .inl (fun _ => 0))), (q3, .inl (k3, 56, .inl (ltS 47)))] H := hP
  have hD : va_D A [(h0, .inr (1, [.ref q1, .ref q2, .null, .null])), (q1, .inl (k1, 16, .inl (fun _ => 0))), (q2, .inl (k2, 96, .inl (fun _ => 0))), (q3, .inl (k3, 56, .inl (ltS 47)))] := hD
  refine lv_dup hx hb dM_init_301 rfl ?_
  refine lv_bipush (v := (47 : Int32)) hx hb dM_init_302 (by decide) ?_
  refine lv_bipush (v := (47 : Int32)) hx hb dM_init_304 (by decide) ?_
  refine va_iast hx hb hK hP hD hS 3 2 rfl rfl (by unfold vp_in; decide) dM_init_306 (fun H locs hP hD hS => ?_)
  have hP : va_P (dC, dI) vwCl [(h0, .inr (1, [.ref q1, .ref q2, .null, .null])), (q1, .inl (k1, 16, .inl (fun _ => 0))), (q2, .inl (k2, 96, .inl (fun _ => 0))), (q3, .inl (k3, 56, .inl (ltS 48)))] H := hP
  have hD : va_D A [(h0, .inr (1, [.ref q1, .ref q2, .null, .null])), (q1, .inl (k1, 16, .inl (fun _ => 0))), (q2, .inl (k2, 96, .inl (fun _ => 0))), (q3, .inl (k3, 56, .inl (ltS 48)))] := hD
  refine lv_dup hx hb dM_init_307 rfl ?_
  refine lv_bipush (v := (48 : Int32)) hx hb dM_init_308 (by decide) ?_
  refine lv_bipush (v := (61 : Int32)) hx hb dM_init_310 (by decide) ?_
  refine va_iast hx hb hK hP hD hS 3 2 rfl rfl (by unfold vp_in; decide) dM_init_312 (fun H locs hP hD hS => ?_)
  have hP : va_P (dC, dI) vwCl [(h0, .inr (1, [.ref q1, .ref q2, .null, .null])), (q1, .inl (k1, 16, .inl (fun _ => 0))), (q2, .inl (k2, 96, .inl (fun _ => 0))), (q3, .inl (k3, 56, .inl (ltS 49)))] H := hP
  have hD : va_D A [(h0, .inr (1, [.ref q1, .ref q2, .null, .null])), (q1, .inl (k1, 16, .inl (fun _ => 0))), (q2, .inl (k2, 96, .inl (fun _ => 0))), (q3, .inl (k3, 56, .inl (ltS 49)))] := hD
  refine lv_dup hx hb dM_init_313 rfl ?_
  refine lv_bipush (v := (49 : Int32)) hx hb dM_init_314 (by decide) ?_
  refine lv_bipush (v := (36 : Int32)) hx hb dM_init_316 (by decide) ?_
  refine va_iast hx hb hK hP hD hS 3 2 rfl rfl (by unfold vp_in; decide) dM_init_318 (fun H locs hP hD hS => ?_)
  have hP : va_P (dC, dI) vwCl [(h0, .inr (1, [.ref q1, .ref q2, .null, .null])), (q1, .inl (k1, 16, .inl (fun _ => 0))), (q2, .inl (k2, 96, .inl (fun _ => 0))), (q3, .inl (k3, 56, .inl (ltS 50)))] H := hP
  have hD : va_D A [(h0, .inr (1, [.ref q1, .ref q2, .null, .null])), (q1, .inl (k1, 16, .inl (fun _ => 0))), (q2, .inl (k2, 96, .inl (fun _ => 0))), (q3, .inl (k3, 56, .inl (ltS 50)))] := hD
  refine lv_dup hx hb dM_init_319 rfl ?_
  refine lv_bipush (v := (50 : Int32)) hx hb dM_init_320 (by decide) ?_
  refine lv_bipush (v := (60 : Int32)) hx hb dM_init_322 (by decide) ?_
  refine va_iast hx hb hK hP hD hS 3 2 rfl rfl (by unfold vp_in; decide) dM_init_324 (fun H locs hP hD hS => ?_)
  have hP : va_P (dC, dI) vwCl [(h0, .inr (1, [.ref q1, .ref q2, .null, .null])), (q1, .inl (k1, 16, .inl (fun _ => 0))), (q2, .inl (k2, 96, .inl (fun _ => 0))), (q3, .inl (k3, 56, .inl (ltS 51)))] H := hP
  have hD : va_D A [(h0, .inr (1, [.ref q1, .ref q2, .null, .null])), (q1, .inl (k1, 16, .inl (fun _ => 0))), (q2, .inl (k2, 96, .inl (fun _ => 0))), (q3, .inl (k3, 56, .inl (ltS 51)))] := hD
  refine lv_dup hx hb dM_init_325 rfl ?_
  refine lv_bipush (v := (51 : Int32)) hx hb dM_init_326 (by decide) ?_
  refine lv_bipush (v := (62 : Int32)) hx hb dM_init_328 (by decide) ?_
  refine va_iast hx hb hK hP hD hS 3 2 rfl rfl (by unfold vp_in; decide) dM_init_330 (fun H locs hP hD hS => ?_)
  have hP : va_P (dC, dI) vwCl [(h0, .inr (1, [.ref q1, .ref q2, .null, .null])), (q1, .inl (k1, 16, .inl (fun _ => 0))), (q2, .inl (k2, 96, .inl (fun _ => 0))), (q3, .inl (k3, 56, .inl (ltS 52)))] H := hP
  have hD : va_D A [(h0, .inr (1, [.ref q1, .ref q2, .null, .null])), (q1, .inl (k1, 16, .inl (fun _ => 0))), (q2, .inl (k2, 96, .inl (fun _ => 0))), (q3, .inl (k3, 56, .inl (ltS 52)))] := hD
  refine lv_dup hx hb dM_init_331 rfl ?_
  refine lv_bipush (v := (52 : Int32)) hx hb dM_init_332 (by decide) ?_
  refine lv_bipush (v := (64 : Int32)) hx hb dM_init_334 (by decide) ?_
  refine va_iast hx hb hK hP hD hS 3 2 rfl rfl (by unfold vp_in; decide) dM_init_336 (fun H locs hP hD hS => ?_)
  have hP : va_P (dC, dI) vwCl [(h0, .inr (1, [.ref q1, .ref q2, .null, .null])), (q1, .inl (k1, 16, .inl (fun _ => 0))), (q2, .inl (k2, 96, .inl (fun _ => 0))), (q3, .inl (k3, 56, .inl (ltS 53)))] H := hP
  have hD : va_D A [(h0, .inr (1, [.ref q1, .ref q2, .null, .null])), (q1, .inl (k1, 16, .inl (fun _ => 0))), (q2, .inl (k2, 96, .inl (fun _ => 0))), (q3, .inl (k3, 56, .inl (ltS 53)))] := hD
  refine lv_dup hx hb dM_init_337 rfl ?_
  refine lv_bipush (v := (53 : Int32)) hx hb dM_init_338 (by decide) ?_
  refine lv_bipush (v := (59 : Int32)) hx hb dM_init_340 (by decide) ?_
  refine va_iast hx hb hK hP hD hS 3 2 rfl rfl (by unfold vp_in; decide) dM_init_342 (fun H locs hP hD hS => ?_)
  have hP : va_P (dC, dI) vwCl [(h0, .inr (1, [.ref q1, .ref q2, .null, .null])), (q1, .inl (k1, 16, .inl (fun _ => 0))), (q2, .inl (k2, 96, .inl (fun _ => 0))), (q3, .inl (k3, 56, .inl (ltS 54)))] H := hP
  have hD : va_D A [(h0, .inr (1, [.ref q1, .ref q2, .null, .null])), (q1, .inl (k1, 16, .inl (fun _ => 0))), (q2, .inl (k2, 96, .inl (fun _ => 0))), (q3, .inl (k3, 56, .inl (ltS 54)))] := hD
  refine lv_dup hx hb dM_init_343 rfl ?_
  refine lv_bipush (v := (54 : Int32)) hx hb dM_init_344 (by decide) ?_
  refine lv_bipush (v := (58 : Int32)) hx hb dM_init_346 (by decide) ?_
  refine va_iast hx hb hK hP hD hS 3 2 rfl rfl (by unfold vp_in; decide) dM_init_348 (fun H locs hP hD hS => ?_)
  have hP : va_P (dC, dI) vwCl [(h0, .inr (1, [.ref q1, .ref q2, .null, .null])), (q1, .inl (k1, 16, .inl (fun _ => 0))), (q2, .inl (k2, 96, .inl (fun _ => 0))), (q3, .inl (k3, 56, .inl (ltS 55)))] H := hP
  have hD : va_D A [(h0, .inr (1, [.ref q1, .ref q2, .null, .null])), (q1, .inl (k1, 16, .inl (fun _ => 0))), (q2, .inl (k2, 96, .inl (fun _ => 0))), (q3, .inl (k3, 56, .inl (ltS 55)))] := hD
  refine lv_dup hx hb dM_init_349 rfl ?_
  refine lv_bipush (v := (55 : Int32)) hx hb dM_init_350 (by decide) ?_
  refine lv_bipush (v := (39 : Int32)) hx hb dM_init_352 (by decide) ?_
  refine va_iast hx hb hK hP hD hS 3 2 rfl rfl (by unfold vp_in; decide) dM_init_354 (fun H locs hP hD hS => ?_)
  have hP : va_P (dC, dI) vwCl [(h0, .inr (1, [.ref q1, .ref q2, .null, .null])), (q1, .inl (k1, 16, .inl (fun _ => 0))), (q2, .inl (k2, 96, .inl (fun _ => 0))), (q3, .inl (k3, 56, .inl (ltS 56)))] H := hP
  have hD : va_D A [(h0, .inr (1, [.ref q1, .ref q2, .null, .null])), (q1, .inl (k1, 16, .inl (fun _ => 0))), (q2, .inl (k2, 96, .inl (fun _ => 0))), (q3, .inl (k3, 56, .inl (ltS 56)))] := hD
  refine va_putF (D := (dC, dI)) (ci := 1) (v := .ref q3) (ty := .array .int) (C := RM) (T := TM) (N := 4) hx hb hts iM tyM tyM_ok nmM hown hK hP hD hS 0 rfl rfl 2 (by decide) (hts _ tw_216) (fun _ h9 => h9) rfl hin rfl (by decide +kernel) rfl rfl (Nat.le_of_ble_eq_true rfl) dM_init_355 (fun H locs hP hD hS => ?_)
  have hP : va_P (dC, dI) vwCl [(h0, .inr (1, [.ref q1, .ref q2, .ref q3, .null])), (q1, .inl (k1, 16, .inl (fun _ => 0))), (q2, .inl (k2, 96, .inl (fun _ => 0))), (q3, .inl (k3, 56, .inl (ltS 56)))] H := hP
  have hD : va_D A [(h0, .inr (1, [.ref q1, .ref q2, .ref q3, .null])), (q1, .inl (k1, 16, .inl (fun _ => 0))), (q2, .inl (k2, 96, .inl (fun _ => 0))), (q3, .inl (k3, 56, .inl (ltS 56)))] := hD
  refine lv_aload_n hx hb dM_init_358 rfl (lv_at hl 0 rfl) ?_
  refine lv_bipush (v := (6 : Int32)) hx hb dM_init_359 (by decide) ?_
  refine va_newa (atype := .int) (ty := .int) (a0 := (6, .inl (fun _ => 0))) (N' := 6) hx hb (hts _ tw_21) rfl hK hP hD hS hA (fun _ => rfl) (by decide) (by decide) (by decide) (Nat.le_of_ble_eq_true rfl) (Nat.le_of_ble_eq_true rfl) dM_init_361 (fun q4 k4 H hK hP hD hS => ?_)
  have hK : va_K (dC, dI) vwCl [(k1, .boolean), (k2, .int), (k3, .int), (k4, .int)] s := hK
  have hP : va_P (dC, dI) vwCl [(h0, .inr (1, [.ref q1, .ref q2, .ref q3, .null])), (q1, .inl (k1, 16, .inl (fun _ => 0))), (q2, .inl (k2, 96, .inl (fun _ => 0))), (q3, .inl (k3, 56, .inl (ltS 56))), (q4, .inl (k4, 6, .inl (fun _ => 0)))] H := hP
  have hD : va_D A [(h0, .inr (1, [.ref q1, .ref q2, .ref q3, .null])), (q1, .inl (k1, 16, .inl (fun _ => 0))), (q2, .inl (k2, 96, .inl (fun _ => 0))), (q3, .inl (k3, 56, .inl (ltS 56))), (q4, .inl (k4, 6, .inl (fun _ => 0)))] := hD
  refine W.widen (k := 4) (n := 174) (by omega) (by omega) ?_
  refine va_putF (D := (dC, dI)) (ci := 1) (v := .ref q4) (ty := .array .int) (C := RM) (T := TM) (N := 4) hx hb hts iM tyM tyM_ok nmM hown hK hP hD hS 0 rfl rfl 3 (by decide) (hts _ tw_217) (fun _ h9 => h9) rfl hin rfl (by decide +kernel) rfl rfl (Nat.le_of_ble_eq_true rfl) dM_init_363 (fun H locs hP hD hS => ?_)
  have hP : va_P (dC, dI) vwCl [(h0, .inr (1, [.ref q1, .ref q2, .ref q3, .ref q4])), (q1, .inl (k1, 16, .inl (fun _ => 0))), (q2, .inl (k2, 96, .inl (fun _ => 0))), (q3, .inl (k3, 56, .inl (ltS 56))), (q4, .inl (k4, 6, .inl (fun _ => 0)))] H := hP
  have hD : va_D A [(h0, .inr (1, [.ref q1, .ref q2, .ref q3, .ref q4])), (q1, .inl (k1, 16, .inl (fun _ => 0))), (q2, .inl (k2, 96, .inl (fun _ => 0))), (q3, .inl (k3, 56, .inl (ltS 56))), (q4, .inl (k4, 6, .inl (fun _ => 0)))] := hD
  exact W.vret hx hb hr (fun t ht hW => ⟨⟨(), rfl, trivial, q1, q2, q3, q4, k1, k2, k3, k4, by rw [ht]; exact hP, va_K.moved hW.alike hK, hD⟩, hS.F ht⟩) hS.2.2 dM_init_366
