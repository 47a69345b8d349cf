set_option maxHeartbeats 4000000 in
set_option maxRecDepth 100000 in
theorem c_F_value (l : Launch) (dC : Nat → ClassId) (dI : Nat → Nat → Nat) (h0 q1 : Nat) (k1 : ClassId) (f : Nat → Int32) (a1 : Int32) : Met l yF_value wsF_value ({ frames := 2, cells := 0, slots := 0, locals := 41 }) (va_Pc [.ref h0, .int a1] (fun U => va_P (dC, dI) vwCl (wsF h0 q1 k1 f) U.heap ∧ va_K (dC, dI) vwCl [(k1, .int)] U)) (va_Qi (fun (r : Int32) (_ : Unit) => r = f_F_value f a1) (fun _ _ => True) (fun _ => False)) 0 0 (fun _ => False) := by
  refine Met.ofW (cc := prog_1_method_3_code) (maxL := 3) (ret := (some .int)) (by decide) rfl ?_
  intro p e s m args below meth c s₁ B hml hv
  obtain ⟨rfl, hP, hK⟩ := hv
  have hx := B.exec
  have hb := B.bytes
  have hr := B.returns
  have hts := fun (w : Cond) (h : w ∈ gw) => atoms_spec (ws := wsF_value) B.pre w (List.mem_cons_of_mem _ h)
  have hown : s.vm.findClass RF = some m.cls := findClass_of_methodNamed B.named
  have hlocks := B.notSynchronized
  have hS : va_S (fun _ => False) s.heap s.heap [] := va_S.rf
  have hl := lv_entry ([.ref h0, .int a1]) (n := 3) (Nat.le_of_ble_eq_true rfl)
  rw [lg_entry_eq]
  generalize (lg_sl ([.ref h0, .int a1]) ++ List.replicate (3 - (lg_sl ([.ref h0, .int a1])).length) Slot.unset).toArray = ls at hl ⊢
  have hl : lv_has ls 3 [(0, .ref h0), (1, .int a1)] := hl
  refine lv_iload_n hx hb dF_value_0 rfl (lv_at hl 1 rfl) ?_
  refine kk_callP (va_runS (As := [.int a1]) (rest := []) ⟨hx, hb, hml, hown, hts⟩ (c_F_isRegister l a1) (va_cwS 1 hts (gS tw_26 tw_27 tw_1 tw_28) rfl rfl rfl (by decide +kernel) ⟨Nat.le_of_ble_eq_true rfl, Nat.le_of_ble_eq_true rfl⟩) ⟨fun _ _ _ _ q => q, fun _ _ _ => ⟨rfl, trivial⟩⟩ rfl rfl hl.1 rfl (lv_room (Nat.le_of_ble_eq_true rfl)) dF_value_1 ⟨Nat.le_of_ble_eq_true rfl, Nat.le_of_ble_eq_true rfl⟩) hS hP (fun H locs hS hP => ?_)
  refine lv_if_ne (tgt := 10) hx hb dF_value_4 (by decide) (fun c_1 => ?_) (fun c_1 => ?_)
  · refine lv_aload_n hx hb dF_value_10 rfl (lv_at hl 0 rfl) ?_
    refine va_get (D := (dC, dI)) (ci := 0) (v := .ref q1) (C := RF) (T := TF) (N := 1) hx hb hts iF hown hK hP 0 rfl rfl 0 (by decide) (hts _ tw_17) (fun _ h9 => h9) rfl dF_value_11 ?_
    refine lv_iload_n hx hb dF_value_14 rfl (lv_at hl 1 rfl) ?_
    refine va_iald hx hb hK hP 1 0 rfl rfl (in_F c_1) dF_value_15 ?_
    refine lv_istore_n (lv' := [(2, .int (f a1.toNatClampNeg)), (0, .ref h0), (1, .int a1)]) hx hb dF_value_16 rfl hl (by decide) rfl (fun ls hl => ?_)
    refine lv_iload_n hx hb dF_value_17 rfl (lv_at hl 0 rfl) ?_
    refine lv_ldc (v := (1073741824 : Int32)) hx hb hown (hts _ tw_31) dF_value_18 ?_
    refine lv_icmp_ne (tgt := 28) hx hb dF_value_20 (by decide) (fun c_2 => ?_) (fun c_2 => ?_)
    · refine lv_iload_n hx hb dF_value_28 rfl (lv_at hl 0 rfl) ?_
      refine kk_callP (va_runS (As := [.int (f a1.toNatClampNeg)]) (rest := []) ⟨hx, hb, hml, hown, hts⟩ (c_F_number l (f a1.toNatClampNeg)) (va_cwS 1 hts (gS tw_38 tw_39 tw_1 tw_40) rfl rfl rfl (by decide +kernel) ⟨Nat.le_of_ble_eq_true rfl, Nat.le_of_ble_eq_true rfl⟩) ⟨fun _ _ _ _ q => q, fun _ _ _ => ⟨rfl, trivial⟩⟩ rfl rfl hl.1 rfl (lv_room (Nat.le_of_ble_eq_true rfl)) dF_value_29 ⟨Nat.le_of_ble_eq_true rfl, Nat.le_of_ble_eq_true rfl⟩) hS hP (fun H locs hS hP => ?_)
      exact W.iret (v := (f_F_number (f a1.toNatClampNeg))) hx hb hr (fun tt ht hW => ⟨⟨(f_F_number (f a1.toNatClampNeg)), (), rfl, (by unfold f_F_value; rw [if_neg c_1, if_neg c_2]), trivial⟩, hS.F ht⟩) hS.2.2 dF_value_32
    · refine lv_ldc (v := (-2147483648 : Int32)) hx hb hown (hts _ tw_37) dF_value_23 ?_
      refine lv_goto (tgt := 32) hx hb dF_value_25 (by decide) ?_
      exact W.iret (v := (-2147483648 : Int32)) hx hb hr (fun tt ht hW => ⟨⟨(-2147483648 : Int32), (), rfl, (by unfold f_F_value; rw [if_neg c_1, if_pos c_2]), trivial⟩, hS.F ht⟩) hS.2.2 dF_value_32
  · refine lv_ldc (v := (2147483647 : Int32)) hx hb hown (hts _ tw_36) dF_value_7 ?_
    exact W.iret (v := (2147483647 : Int32)) hx hb hr (fun tt ht hW => ⟨⟨(2147483647 : Int32), (), rfl, (by unfold f_F_value; rw [if_pos c_1]), trivial⟩, hS.F ht⟩) hS.2.2 dF_value_9

set_option maxHeartbeats 4000000 in
set_option maxRecDepth 100000 in
theorem c_F_byteOf (l : Launch) (dC : Nat → ClassId) (dI : Nat → Nat → Nat) (h0 q1 : Nat) (k1 : ClassId) (f : Nat → Int32) (a1 a2 : Int32) : Met l yF_byteOf wsF_byteOf ({ frames := 1, cells := 0, slots := 0, locals := 20 }) (va_Pc [.ref h0, .int a1, .int a2] (fun U => va_P (dC, dI) vwCl (wsF h0 q1 k1 f) U.heap ∧ va_K (dC, dI) vwCl [(k1, .int)] U)) (va_Qi (fun (r : Int32) (_ : Unit) => r = f_F_byteOf f a1 a2) (fun _ _ => True) (fun _ => False)) 0 0 (fun _ => False) := by
  refine Met.ofW (cc := prog_1_method_4_code) (maxL := 4) (ret := (some .int)) (by decide) rfl ?_
  intro p e s m args below meth c s₁ B hml hv
  obtain ⟨rfl, hP, hK⟩ := hv
  have hx := B.exec
  have hb := B.bytes
  have hr := B.returns
  have hts := fun (w : Cond) (h : w ∈ gw) => atoms_spec (ws := wsF_byteOf) B.pre w (List.mem_cons_of_mem _ h)
  have hown : s.vm.findClass RF = some m.cls := findClass_of_methodNamed B.named
  have hlocks := B.notSynchronized
  have hS : va_S (fun _ => False) s.heap s.heap [] := va_S.rf
  have hl := lv_entry ([.ref h0, .int a1, .int a2]) (n := 4) (Nat.le_of_ble_eq_true rfl)
  rw [lg_entry_eq]
  generalize (lg_sl ([.ref h0, .int a1, .int a2]) ++ List.replicate (4 - (lg_sl ([.ref h0, .int a1, .int a2])).length) Slot.unset).toArray = ls at hl ⊢
  have hl : lv_has ls 4 [(0, .ref h0), (1, .int a1), (2, .int a2)] := hl
  refine lv_iload_n hx hb dF_byteOf_0 rfl (lv_at hl 1 rfl) ?_
  refine kk_callP (va_runS (As := [.int a1]) (rest := []) ⟨hx, hb, hml, hown, hts⟩ (c_F_isRegister l a1) (va_cwS 1 hts (gS tw_26 tw_27 tw_1 tw_28) rfl rfl rfl (by decide +kernel) ⟨Nat.le_of_ble_eq_true rfl, Nat.le_of_ble_eq_true rfl⟩) ⟨fun _ _ _ _ q => q, fun _ _ _ => ⟨rfl, trivial⟩⟩ rfl rfl hl.1 rfl (lv_room (Nat.le_of_ble_eq_true rfl)) dF_byteOf_1 ⟨Nat.le_of_ble_eq_true rfl, Nat.le_of_ble_eq_true rfl⟩) hS hP (fun H locs hS hP => ?_)
  refine lv_if_eq (tgt := 16) hx hb dF_byteOf_4 (by decide) (fun c_1 => ?_) (fun c_1 => ?_)
  · refine lv_iconst (v := (-1 : Int32)) hx hb dF_byteOf_16 (by decide) ?_
    exact W.iret (v := (-1 : Int32)) hx hb hr (fun tt ht hW => ⟨⟨(-1 : Int32), (), rfl, (by unfold f_F_byteOf; rw [if_pos c_1]), trivial⟩, hS.F ht⟩) hS.2.2 dF_byteOf_17
  · refine lv_iload_n hx hb dF_byteOf_7 rfl (lv_at hl 2 rfl) ?_
    refine lv_if_lt (tgt := 16) hx hb dF_byteOf_8 (by decide) (fun c_2 => ?_) (fun c_2 => ?_)
    · refine lv_iconst (v := (-1 : Int32)) hx hb dF_byteOf_16 (by decide) ?_
      exact W.iret (v := (-1 : Int32)) hx hb hr (fun tt ht hW => ⟨⟨(-1 : Int32), (), rfl, (by unfold f_F_byteOf; rw [if_neg c_1, if_pos c_2]), trivial⟩, hS.F ht⟩) hS.2.2 dF_byteOf_17
    · refine lv_iload_n hx hb dF_byteOf_11 rfl (lv_at hl 2 rfl) ?_
      refine lv_iconst (v := (5 : Int32)) hx hb dF_byteOf_12 (by decide) ?_
      refine lv_icmp_le (tgt := 18) hx hb dF_byteOf_13 (by decide) (fun c_3 => ?_) (fun c_3 => ?_)
      · refine lv_aload_n hx hb dF_byteOf_18 rfl (lv_at hl 0 rfl) ?_
        refine va_get (D := (dC, dI)) (ci := 0) (v := .ref q1) (C := RF) (T := TF) (N := 1) hx hb hts iF hown hK hP 0 rfl rfl 0 (by decide) (hts _ tw_17) (fun _ h9 => h9) rfl dF_byteOf_19 ?_
        refine lv_iload_n hx hb dF_byteOf_22 rfl (lv_at hl 1 rfl) ?_
        refine va_iald hx hb hK hP 1 0 rfl rfl (in_F c_1) dF_byteOf_23 ?_
        refine lv_istore_n (lv' := [(3, .int (f a1.toNatClampNeg)), (0, .ref h0), (1, .int a1), (2, .int a2)]) hx hb dF_byteOf_24 rfl hl (by decide) rfl (fun ls hl => ?_)
        refine lv_iload_n hx hb dF_byteOf_25 rfl (lv_at hl 3 rfl) ?_
        refine lv_if_ne (tgt := 42) hx hb dF_byteOf_26 (by decide) (fun c_4 => ?_) (fun c_4 => ?_)
        · refine lv_iload_n hx hb dF_byteOf_42 rfl (lv_at hl 0 rfl) ?_
          refine lv_iload_n hx hb dF_byteOf_43 rfl (lv_at hl 3 rfl) ?_
          refine kk_callP (va_runS (As := [.int a2]) (rest := [.int (f a1.toNatClampNeg)]) ⟨hx, hb, hml, hown, hts⟩ (c_F_bitsRightOf l a2) (va_cwS 1 hts (gS tw_48 tw_49 tw_1 tw_50) rfl rfl rfl (by decide +kernel) ⟨Nat.le_of_ble_eq_true rfl, Nat.le_of_ble_eq_true rfl⟩) ⟨fun _ _ _ _ q => q, fun _ _ _ => ⟨rfl, trivial⟩⟩ rfl rfl hl.1 rfl (lv_room (Nat.le_of_ble_eq_true rfl)) dF_byteOf_44 ⟨Nat.le_of_ble_eq_true rfl, Nat.le_of_ble_eq_true rfl⟩) hS hP (fun H locs hS hP => ?_)
          refine lv_ishr hx hb dF_byteOf_47 ?_
          refine lv_bipush (v := (63 : Int32)) hx hb dF_byteOf_48 (by decide) ?_
          refine lv_iand hx hb dF_byteOf_50 ?_
          exact W.iret (v := (((f a1.toNatClampNeg) >>> ((f_F_bitsRightOf a2) &&& 31)) &&& (63 : Int32))) hx hb hr (fun tt ht hW => ⟨⟨(((f a1.toNatClampNeg) >>> ((f_F_bitsRightOf a2) &&& 31)) &&& (63 : Int32)), (), rfl, (by unfold f_F_byteOf; rw [if_neg c_1, if_neg c_2, if_pos c_3, if_neg c_4]), trivial⟩, hS.F ht⟩) hS.2.2 dF_byteOf_51
        · refine lv_iload_n hx hb dF_byteOf_29 rfl (lv_at hl 0 rfl) ?_
          refine kk_callP (va_runS (As := [.int (f a1.toNatClampNeg)]) (rest := []) ⟨hx, hb, hml, hown, hts⟩ (c_F_isMinus l (f a1.toNatClampNeg)) (va_cwS 1 hts (gS tw_41 tw_42 tw_1 tw_43) rfl rfl rfl (by decide +kernel) ⟨Nat.le_of_ble_eq_true rfl, Nat.le_of_ble_eq_true rfl⟩) ⟨fun _ _ _ _ q => q, fun _ _ _ => ⟨rfl, trivial⟩⟩ rfl rfl hl.1 rfl (lv_room (Nat.le_of_ble_eq_true rfl)) dF_byteOf_30 ⟨Nat.le_of_ble_eq_true rfl, Nat.le_of_ble_eq_true rfl⟩) hS hP (fun H locs hS hP => ?_)
          refine lv_if_eq (tgt := 40) hx hb dF_byteOf_33 (by decide) (fun c_5 => ?_) (fun c_5 => ?_)
          · refine lv_iconst (v := (0 : Int32)) hx hb dF_byteOf_40 (by decide) ?_
            exact W.iret (v := (0 : Int32)) hx hb hr (fun tt ht hW => ⟨⟨(0 : Int32), (), rfl, (by unfold f_F_byteOf; rw [if_neg c_1, if_neg c_2, if_pos c_3, if_pos c_4, if_pos c_5]), trivial⟩, hS.F ht⟩) hS.2.2 dF_byteOf_41
          · refine lv_iconst (v := (1 : Int32)) hx hb dF_byteOf_36 (by decide) ?_
            refine lv_goto (tgt := 41) hx hb dF_byteOf_37 (by decide) ?_
            exact W.iret (v := (1 : Int32)) hx hb hr (fun tt ht hW => ⟨⟨(1 : Int32), (), rfl, (by unfold f_F_byteOf; rw [if_neg c_1, if_neg c_2, if_pos c_3, if_pos c_4, if_neg c_5]), trivial⟩, hS.F ht⟩) hS.2.2 dF_byteOf_41
      · refine lv_iconst (v := (-1 : Int32)) hx hb dF_byteOf_16 (by decide) ?_
        exact W.iret (v := (-1 : Int32)) hx hb hr (fun tt ht hW => ⟨⟨(-1 : Int32), (), rfl, (by unfold f_F_byteOf; rw [if_neg c_1, if_neg c_2, if_neg c_3]), trivial⟩, hS.F ht⟩) hS.2.2 dF_byteOf_17

set_option maxHeartbeats 4000000 in
set_option maxRecDepth 100000 in
theorem c_F_compare (l : Launch) (dC : Nat → ClassId) (dI : Nat → Nat → Nat) (h0 q1 : Nat) (k1 : ClassId) (f : Nat → Int32) (a1 a2 a3 : Int32) : Met l yF_compare wsF_compare ({ frames := 3, cells := 0, slots := 0, locals := 63 }) (va_Pc [.ref h0, .int a1, .int a2, .int a3] (fun U => va_P (dC, dI) vwCl (wsF h0 q1 k1 f) U.heap ∧ va_K (dC, dI) vwCl [(k1, .int)] U)) (va_Qi (fun (r : Int32) (_ : Unit) => r = f_F_compare f a1 a2 a3) (fun _ _ => True) (fun _ => False)) 0 0 (fun _ => False) := by
  refine Met.ofW (cc := prog_1_method_8_code) (maxL := 6) (ret := (some .int)) (by decide) rfl ?_
  intro p e s m args below meth c s₁ B hml hv
  obtain ⟨rfl, hP, hK⟩ := hv
  have hx := B.exec
  have hb := B.bytes
  have hr := B.returns
  have hts := fun (w : Cond) (h : w ∈ gw) => atoms_spec (ws := wsF_compare) B.pre w (List.mem_cons_of_mem _ h)
  have hown : s.vm.findClass RF = some m.cls := findClass_of_methodNamed B.named
  have hlocks := B.notSynchronized
  have hS : va_S (fun _ => False) s.heap s.heap [] := va_S.rf
  have hl := lv_entry ([.ref h0, .int a1, .int a2, .int a3]) (n := 6) (Nat.le_of_ble_eq_true rfl)
  rw [lg_entry_eq]
  generalize (lg_sl ([.ref h0, .int a1, .int a2, .int a3]) ++ List.replicate (6 - (lg_sl ([.ref h0, .int a1, .int a2, .int a3])).length) Slot.unset).toArray = ls at hl ⊢
  have hl : lv_has ls 6 [(0, .ref h0), (1, .int a1), (2, .int a2), (3, .int a3)] := hl
  refine lv_iload_n hx hb dF_compare_0 rfl (lv_at hl 1 rfl) ?_
  refine kk_callP (va_runS (As := [.int a1]) (rest := []) ⟨hx, hb, hml, hown, hts⟩ (c_F_isRegister l a1) (va_cwS 1 hts (gS tw_26 tw_27 tw_1 tw_28) rfl rfl rfl (by decide +kernel) ⟨Nat.le_of_ble_eq_true rfl, Nat.le_of_ble_eq_true rfl⟩) ⟨fun _ _ _ _ q => q, fun _ _ _ => ⟨rfl, trivial⟩⟩ rfl rfl hl.1 rfl (lv_room (Nat.le_of_ble_eq_true rfl)) dF_compare_1 ⟨Nat.le_of_ble_eq_true rfl, Nat.le_of_ble_eq_true rfl⟩) hS hP (fun H locs hS hP => ?_)
  refine lv_if_eq (tgt := 22) hx hb dF_compare_4 (by decide) (fun c_1 => ?_) (fun c_1 => ?_)
  · refine lv_bipush (v := (-2 : Int32)) hx hb dF_compare_22 (by decide) ?_
    exact W.iret (v := (-2 : Int32)) hx hb hr (fun tt ht hW => ⟨⟨(-2 : Int32), (), rfl, (by unfold f_F_compare; rw [if_pos c_1]), trivial⟩, hS.F ht⟩) hS.2.2 dF_compare_24
  · refine lv_iload_n hx hb dF_compare_7 rfl (lv_at hl 2 rfl) ?_
    refine kk_callP (va_runS (As := [.int a2]) (rest := []) ⟨hx, hb, hml, hown, hts⟩ (c_F_isRegister l a2) (va_cwS 1 hts (gS tw_26 tw_27 tw_1 tw_28) rfl rfl rfl (by decide +kernel) ⟨Nat.le_of_ble_eq_true rfl, Nat.le_of_ble_eq_true rfl⟩) ⟨fun _ _ _ _ q => q, fun _ _ _ => ⟨rfl, trivial⟩⟩ rfl rfl hl.1 rfl (lv_room (Nat.le_of_ble_eq_true rfl)) dF_compare_8 ⟨Nat.le_of_ble_eq_true rfl, Nat.le_of_ble_eq_true rfl⟩) hS hP (fun H locs hS hP => ?_)
    refine lv_if_eq (tgt := 22) hx hb dF_compare_11 (by decide) (fun c_2 => ?_) (fun c_2 => ?_)
    · refine lv_bipush (v := (-2 : Int32)) hx hb dF_compare_22 (by decide) ?_
      exact W.iret (v := (-2 : Int32)) hx hb hr (fun tt ht hW => ⟨⟨(-2 : Int32), (), rfl, (by unfold f_F_compare; rw [if_neg c_1, if_pos c_2]), trivial⟩, hS.F ht⟩) hS.2.2 dF_compare_24
    · refine lv_aload_n hx hb dF_compare_14 rfl (lv_at hl 0 rfl) ?_
      refine lv_iload_n hx hb dF_compare_15 rfl (lv_at hl 3 rfl) ?_
      refine kk_callP (va_runV (As := [.int a3]) (rest := []) ⟨hx, hb, hml, hown, hts⟩ (c_F_isField l h0 a3) (cwV 1 hts (gV tw_55 tw_56 tw_57 tw_1 tw_58) rfl rfl rfl (by decide +kernel) ⟨Nat.le_of_ble_eq_true rfl, Nat.le_of_ble_eq_true rfl⟩) ⟨fun _ _ _ _ q => q, va_recv hK hP (ci := 0) (q0 := 0) rfl rfl, fun _ _ _ => ⟨rfl, trivial⟩⟩ rfl rfl hl.1 rfl (lv_room (Nat.le_of_ble_eq_true rfl)) dF_compare_16 ⟨Nat.le_of_ble_eq_true rfl, Nat.le_of_ble_eq_true rfl⟩) hS hP (fun H locs hS hP => ?_)
      refine lv_if_ne (tgt := 25) hx hb dF_compare_19 (by decide) (fun c_3 => ?_) (fun c_3 => ?_)
      · refine lv_aload_n hx hb dF_compare_25 rfl (lv_at hl 0 rfl) ?_
        refine va_get (D := (dC, dI)) (ci := 0) (v := .ref q1) (C := RF) (T := TF) (N := 1) hx hb hts iF hown hK hP 0 rfl rfl 0 (by decide) (hts _ tw_17) (fun _ h9 => h9) rfl dF_compare_26 ?_
        refine lv_iload_n hx hb dF_compare_29 rfl (lv_at hl 1 rfl) ?_
        refine va_iald hx hb hK hP 1 0 rfl rfl (in_F c_1) dF_compare_30 ?_
        refine lv_iload_n hx hb dF_compare_31 rfl (lv_at hl 3 rfl) ?_
        refine kk_callP (va_runS (As := [.int (f a1.toNatClampNeg), .int a3]) (rest := []) ⟨hx, hb, hml, hown, hts⟩ (c_F_fieldOf l (f a1.toNatClampNeg) a3) (va_cwS 2 hts (gS tw_65 tw_66 tw_1 tw_67) rfl rfl rfl (by decide +kernel) ⟨Nat.le_of_ble_eq_true rfl, Nat.le_of_ble_eq_true rfl⟩) ⟨fun _ _ _ _ q => q, fun _ _ _ => ⟨rfl, trivial⟩⟩ rfl rfl hl.1 rfl (lv_room (Nat.le_of_ble_eq_true rfl)) dF_compare_32 ⟨Nat.le_of_ble_eq_true rfl, Nat.le_of_ble_eq_true rfl⟩) hS hP (fun H locs hS hP => ?_)
        refine kk_callP (va_runS (As := [.int (f_F_fieldOf (f a1.toNatClampNeg) a3)]) (rest := []) ⟨hx, hb, hml, hown, hts⟩ (c_F_number l (f_F_fieldOf (f a1.toNatClampNeg) a3)) (va_cwS 1 hts (gS tw_38 tw_39 tw_1 tw_40) rfl rfl rfl (by decide +kernel) ⟨Nat.le_of_ble_eq_true rfl, Nat.le_of_ble_eq_true rfl⟩) ⟨fun _ _ _ _ q => q, fun _ _ _ => ⟨rfl, trivial⟩⟩ rfl rfl hl.1 rfl (lv_room (Nat.le_of_ble_eq_true rfl)) dF_compare_35 ⟨Nat.le_of_ble_eq_true rfl, Nat.le_of_ble_eq_true rfl⟩) hS hP (fun H locs hS hP => ?_)
        refine lv_topi (fun x_4 ex_4 => ?_)
        refine lv_istore (lv' := [(4, .int x_4), (0, .ref h0), (1, .int a1), (2, .int a2), (3, .int a3)]) hx hb dF_compare_38 hl (by decide) rfl (fun ls hl => ?_)
        refine lv_aload_n hx hb dF_compare_40 rfl (lv_at hl 1 rfl) ?_
        refine va_get (D := (dC, dI)) (ci := 0) (v := .ref q1) (C := RF) (T := TF) (N := 1) hx hb hts iF hown hK hP 0 rfl rfl 0 (by decide) (hts _ tw_17) (fun _ h9 => h9) rfl dF_compare_41 ?_
        refine lv_iload_n hx hb dF_compare_44 rfl (lv_at hl 3 rfl) ?_
        refine va_iald hx hb hK hP 1 0 rfl rfl (in_F c_2) dF_compare_45 ?_
        refine lv_iload_n hx hb dF_compare_46 rfl (lv_at hl 4 rfl) ?_
        refine kk_callP (va_runS (As := [.int (f a2.toNatClampNeg), .int a3]) (rest := []) ⟨hx, hb, hml, hown, hts⟩ (c_F_fieldOf l (f a2.toNatClampNeg) a3) (va_cwS 2 hts (gS tw_65 tw_66 tw_1 tw_67) rfl rfl rfl (by decide +kernel) ⟨Nat.le_of_ble_eq_true rfl, Nat.le_of_ble_eq_true rfl⟩) ⟨fun _ _ _ _ q => q, fun _ _ _ => ⟨rfl, trivial⟩⟩ rfl rfl hl.1 rfl (lv_room (Nat.le_of_ble_eq_true rfl)) dF_compare_47 ⟨Nat.le_of_ble_eq_true rfl, Nat.le_of_ble_eq_true rfl⟩) hS hP (fun H locs hS hP => ?_)
        refine kk_callP (va_runS (As := [.int (f_F_fieldOf (f a2.toNatClampNeg) a3)]) (rest := []) ⟨hx, hb, hml, hown, hts⟩ (c_F_number l (f_F_fieldOf (f a2.toNatClampNeg) a3)) (va_cwS 1 hts (gS tw_38 tw_39 tw_1 tw_40) rfl rfl rfl (by decide +kernel) ⟨Nat.le_of_ble_eq_true rfl, Nat.le_of_ble_eq_true rfl⟩) ⟨fun _ _ _ _ q => q, fun _ _ _ => ⟨rfl, trivial⟩⟩ rfl rfl hl.1 rfl (lv_room (Nat.le_of_ble_eq_true rfl)) dF_compare_50 ⟨Nat.le_of_ble_eq_true rfl, Nat.le_of_ble_eq_true rfl⟩) hS hP (fun H locs hS hP => ?_)
        refine lv_topi (fun x_5 ex_5 => ?_)
        refine lv_istore (lv' := [(5, .int x_5), (4, .int x_4), (0, .ref h0), (1, .int a1), (2, .int a2), (3, .int a3)]) hx hb dF_compare_53 hl (by decide) rfl (fun ls hl => ?_)
        refine lv_iload hx hb dF_compare_55 (lv_at hl 1 rfl) ?_
        refine lv_iload hx hb dF_compare_57 (lv_at hl 0 rfl) ?_
        refine lv_icmp_ge (tgt := 66) hx hb dF_compare_59 (by decide) (fun c_6 => ?_) (fun c_6 => ?_)
        · refine lv_iload hx hb dF_compare_66 (lv_at hl 1 rfl) ?_
          refine lv_iload hx hb dF_compare_68 (lv_at hl 0 rfl) ?_
          refine lv_icmp_le (tgt := 77) hx hb dF_compare_70 (by decide) (fun c_7 => ?_) (fun c_7 => ?_)
          · refine lv_iconst (v := (0 : Int32)) hx hb dF_compare_77 (by decide) ?_
            exact W.iret (v := (0 : Int32)) hx hb hr (fun tt ht hW => ⟨⟨(0 : Int32), (), rfl, (by subst ex_4; subst ex_5; unfold f_F_compare; rw [if_neg c_1, if_neg c_2, if_neg c_3, if_pos c_6, if_pos c_7]), trivial⟩, hS.F ht⟩) hS.2.2 dF_compare_78
          · refine lv_iconst (v := (1 : Int32)) hx hb dF_compare_73 (by decide) ?_
            refine lv_goto (tgt := 78) hx hb dF_compare_74 (by decide) ?_
            exact W.iret (v := (1 : Int32)) hx hb hr (fun tt ht hW => ⟨⟨(1 : Int32), (), rfl, (by subst ex_4; subst ex_5; unfold f_F_compare; rw [if_neg c_1, if_neg c_2, if_neg c_3, if_pos c_6, if_neg c_7]), trivial⟩, hS.F ht⟩) hS.2.2 dF_compare_78
        · refine lv_iconst (v := (-1 : Int32)) hx hb dF_compare_62 (by decide) ?_
          refine lv_goto (tgt := 78) hx hb dF_compare_63 (by decide) ?_
          exact W.iret (v := (-1 : Int32)) hx hb hr (fun tt ht hW => ⟨⟨(-1 : Int32), (), rfl, (by subst ex_4; subst ex_5; unfold f_F_compare; rw [if_neg c_1, if_neg c_2, if_neg c_3, if_neg c_6]), trivial⟩, hS.F ht⟩) hS.2.2 dF_compare_78
      · refine lv_bipush (v := (-2 : Int32)) hx hb dF_compare_22 (by decide) ?_
        exact W.iret (v := (-2 : Int32)) hx hb hr (fun tt ht hW => ⟨⟨(-2 : Int32), (), rfl, (by unfold f_F_compare; rw [if_neg c_1, if_neg c_2, if_pos c_3]), trivial⟩, hS.F ht⟩) hS.2.2 dF_compare_24

set_option maxHeartbeats 4000000 in
set_option maxRecDepth 100000 in
theorem c_F_set (l : Launch) (dC : Nat → ClassId) (dI : Nat → Nat → Nat) (h0 q1 : Nat) (k1 : ClassId) (sz : Nat) (f : Nat → Int32) (a1 a2 a3 : Int32) : Met l yF_set wsF_set ({ frames := 1, cells := 0, slots := 0, locals := 20 }) (va_Pc [.ref h0, .int a1, .int a2, .int a3] (fun U => U.heap.size = sz ∧ va_P (dC, dI) vwCl (wsF h0 q1 k1 f) U.heap ∧ va_K (dC, dI) vwCl [(k1, .int)] U ∧ va_D (fun _ => True) (wsF h0 q1 k1 f))) (va_Qi (fun (r : Int32) (_ : Unit) => r = f_F_set f a1 a2 a3) (fun _ tt => va_P (dC, dI) vwCl (wsF h0 q1 k1 ((u_F_set_f f a1 a2 a3))) tt.heap ∧ va_D (va_A (wsF h0 q1 k1 f) sz) (wsF h0 q1 k1 ((u_F_set_f f a1 a2 a3)))) (va_A (wsF h0 q1 k1 f) sz)) 0 0 (va_A (wsF h0 q1 k1 f) sz) := by
  refine Met.ofW (cc := prog_1_method_2_code) (maxL := 5) (ret := (some .boolean)) (by decide) rfl ?_
  intro p e s m args below meth c s₁ B hml hv
  obtain ⟨rfl, hsz, hP, hK, hD0⟩ := hv
  have hx := B.exec
  have hb := B.bytes
  have hr := B.returns
  have hts := fun (w : Cond) (h : w ∈ gw) => atoms_spec (ws := wsF_set) B.pre w (List.mem_cons_of_mem _ h)
  have hown : s.vm.findClass RF = some m.cls := findClass_of_methodNamed B.named
  have hlocks := B.notSynchronized
  subst hsz
  have hD := hD0.self (sz := s.heap.size)
  generalize hAe : va_A (wsF h0 q1 k1 f) s.heap.size = A at hD ⊢
  have hS : va_S A s.heap s.heap [] := va_S.rf
  have hl := lv_entry ([.ref h0, .int a1, .int a2, .int a3]) (n := 5) (Nat.le_of_ble_eq_true rfl)
  rw [lg_entry_eq]
  generalize (lg_sl ([.ref h0, .int a1, .int a2, .int a3]) ++ List.replicate (5 - (lg_sl ([.ref h0, .int a1, .int a2, .int a3])).length) Slot.unset).toArray = ls at hl ⊢
  have hl : lv_has ls 5 [(0, .ref h0), (1, .int a1), (2, .int a2), (3, .int a3)] := hl
  refine lv_iload_n hx hb dF_set_0 rfl (lv_at hl 1 rfl) ?_
  refine kk_callP (va_runS (As := [.int a1]) (rest := []) ⟨hx, hb, hml, hown, hts⟩ (c_F_isRegister l a1) (va_cwS 1 hts (gS tw_26 tw_27 tw_1 tw_28) rfl rfl rfl (by decide +kernel) ⟨Nat.le_of_ble_eq_true rfl, Nat.le_of_ble_eq_true rfl⟩) ⟨fun _ _ _ _ q => q, fun _ _ _ => ⟨rfl, trivial⟩⟩ rfl rfl hl.1 rfl (lv_room (Nat.le_of_ble_eq_true rfl)) dF_set_1 ⟨Nat.le_of_ble_eq_true rfl, Nat.le_of_ble_eq_true rfl⟩) hS hP (fun H locs hS hP => ?_)
  refine lv_if_eq (tgt := 19) hx hb dF_set_4 (by decide) (fun c_1 => ?_) (fun c_1 => ?_)
  · refine lv_iconst (v := (0 : Int32)) hx hb dF_set_19 (by decide) ?_
    have eu_f : f = (u_F_set_f f a1 a2 a3) := (by unfold u_F_set_f; rw [if_pos c_1])
    have hP9 : va_P (dC, dI) vwCl (wsF h0 q1 k1 ((u_F_set_f f a1 a2 a3))) H := by rw [← eu_f]; exact hP
    have hD9 : va_D A (wsF h0 q1 k1 ((u_F_set_f f a1 a2 a3))) := by rw [← eu_f]; exact hD
    exact W.zret (v := (0 : Int32)) hx hb hr (by decide) (fun tt ht hW => ⟨⟨(0 : Int32), (), rfl, (by unfold f_F_set; rw [if_pos c_1]), by rw [ht]; exact hP9, hD9⟩, hS.F ht⟩) hS.2.2 dF_set_20
  · refine lv_iload_n hx hb dF_set_7 rfl (lv_at hl 2 rfl) ?_
    refine lv_ldc (v := (1073741823 : Int32)) hx hb hown (hts _ tw_29) dF_set_8 ?_
    refine lv_icmp_gt (tgt := 19) hx hb dF_set_10 (by decide) (fun c_2 => ?_) (fun c_2 => ?_)
    · refine lv_iconst (v := (0 : Int32)) hx hb dF_set_19 (by decide) ?_
      have eu_f : f = (u_F_set_f f a1 a2 a3) := (by unfold u_F_set_f; rw [if_neg c_1, if_pos c_2])
      have hP9 : va_P (dC, dI) vwCl (wsF h0 q1 k1 ((u_F_set_f f a1 a2 a3))) H := by rw [← eu_f]; exact hP
      have hD9 : va_D A (wsF h0 q1 k1 ((u_F_set_f f a1 a2 a3))) := by rw [← eu_f]; exact hD
      exact W.zret (v := (0 : Int32)) hx hb hr (by decide) (fun tt ht hW => ⟨⟨(0 : Int32), (), rfl, (by unfold f_F_set; rw [if_neg c_1, if_pos c_2]), by rw [ht]; exact hP9, hD9⟩, hS.F ht⟩) hS.2.2 dF_set_20
    · refine lv_iload_n hx hb dF_set_13 rfl (lv_at hl 2 rfl) ?_
      refine lv_ldc (v := (-1073741823 : Int32)) hx hb hown (hts _ tw_30) dF_set_14 ?_
      refine lv_icmp_ge (tgt := 21) hx hb dF_set_16 (by decide) (fun c_3 => ?_) (fun c_3 => ?_)
      · refine kk_mrg (pc' := 38) (ls' := ls) (rest' := []) (x := (if a2 < 0 then (1 : Int32) else (if a2 = 0 then (if a3 = 0 then (0 : Int32) else (1 : Int32)) else (0 : Int32)))) (fun hk_4 => ?_) (fun v_8 ev_8 => ?_)
        · refine lv_iload_n hx hb dF_set_21 rfl (lv_at hl 2 rfl) ?_
          refine lv_if_lt (tgt := 33) hx hb dF_set_22 (by decide) (fun c_5 => ?_) (fun c_5 => ?_)
          · refine lv_iconst (v := (1 : Int32)) hx hb dF_set_33 (by decide) ?_
            refine lv_goto (tgt := 38) hx hb dF_set_34 (by decide) ?_
            exact hk_4 _ (by rw [if_pos c_5])
          · refine lv_iload_n hx hb dF_set_25 rfl (lv_at hl 2 rfl) ?_
            refine lv_if_ne (tgt := 37) hx hb dF_set_26 (by decide) (fun c_6 => ?_) (fun c_6 => ?_)
            · refine lv_iconst (v := (0 : Int32)) hx hb dF_set_37 (by decide) ?_
              exact hk_4 _ (by rw [if_neg c_5, if_neg c_6])
            · refine lv_iload_n hx hb dF_set_29 rfl (lv_at hl 3 rfl) ?_
              refine lv_if_eq (tgt := 37) hx hb dF_set_30 (by decide) (fun c_7 => ?_) (fun c_7 => ?_)
              · refine lv_iconst (v := (0 : Int32)) hx hb dF_set_37 (by decide) ?_
                exact hk_4 _ (by rw [if_neg c_5, if_pos c_6, if_pos c_7])
              · refine lv_iconst (v := (1 : Int32)) hx hb dF_set_33 (by decide) ?_
                refine lv_goto (tgt := 38) hx hb dF_set_34 (by decide) ?_
                exact hk_4 _ (by rw [if_neg c_5, if_pos c_6, if_neg c_7])
        refine lv_istore (lv' := [(4, .int v_8), (0, .ref h0), (1, .int a1), (2, .int a2), (3, .int a3)]) hx hb dF_set_38 hl (by decide) rfl (fun ls hl => ?_)
        refine lv_aload_n hx hb dF_set_40 rfl (lv_at hl 1 rfl) ?_
        refine va_get (D := (dC, dI)) (ci := 0) (v := .ref q1) (C := RF) (T := TF) (N := 1) hx hb hts iF hown hK hP 0 rfl rfl 0 (by decide) (hts _ tw_17) (fun _ h9 => h9) rfl dF_set_41 ?_
        refine lv_iload_n hx hb dF_set_44 rfl (lv_at hl 2 rfl) ?_
        refine kk_mrg (pc' := 55) (ls' := ls) (rest' := [.int a1, .ref q1]) (x := (if 0 ≤ a2 then a2 else (-a2))) (fun hk_9 => ?_) (fun v_11 ev_11 => ?_)
        · refine lv_iload_n hx hb dF_set_45 rfl (lv_at hl 3 rfl) ?_
          refine lv_if_ge (tgt := 54) hx hb dF_set_46 (by decide) (fun c_10 => ?_) (fun c_10 => ?_)
          · refine lv_iload_n hx hb dF_set_54 rfl (lv_at hl 3 rfl) ?_
            exact hk_9 _ (by rw [if_pos c_10])
          · refine lv_iload_n hx hb dF_set_49 rfl (lv_at hl 3 rfl) ?_
            refine lv_ineg hx hb dF_set_50 ?_
            refine lv_goto (tgt := 55) hx hb dF_set_51 (by decide) ?_
            exact hk_9 _ (by rw [if_neg c_10])
        refine kk_mrg (pc' := 66) (ls' := ls) (rest' := [.int v_11, .int a1, .ref q1]) (x := (if v_8 = 0 then (0 : Int32) else (1073741824 : Int32))) (fun hk_12 => ?_) (fun v_14 ev_14 => ?_)
        · refine lv_iload hx hb dF_set_55 (lv_at hl 0 rfl) ?_
          refine lv_if_eq (tgt := 65) hx hb dF_set_57 (by decide) (fun c_13 => ?_) (fun c_13 => ?_)
          · refine lv_iconst (v := (0 : Int32)) hx hb dF_set_65 (by decide) ?_
            exact hk_12 _ (by rw [if_pos c_13])
          · refine lv_ldc (v := (1073741824 : Int32)) hx hb hown (hts _ tw_31) dF_set_60 ?_
            refine lv_goto (tgt := 66) hx hb dF_set_62 (by decide) ?_
            exact hk_12 _ (by rw [if_neg c_13])
        refine lv_ior hx hb dF_set_66 ?_
        refine va_iast hx hb hK hP hD hS 1 0 rfl rfl (in_F c_1) dF_set_67 (fun H locs hP hD hS => ?_)
        have hP : va_P (dC, dI) vwCl (wsF h0 q1 k1 (upd f a1.toNatClampNeg (v_11 ||| v_14))) H := hP
        have hD : va_D A (wsF h0 q1 k1 (upd f a1.toNatClampNeg (v_11 ||| v_14))) := hD
        refine lv_iconst (v := (1 : Int32)) hx hb dF_set_68 (by decide) ?_
        have eu_f : upd f a1.toNatClampNeg (v_11 ||| v_14) = (u_F_set_f f a1 a2 a3) := (by subst ev_8; subst ev_11; subst ev_14; unfold u_F_set_f; rw [if_neg c_1, if_neg c_2, if_pos c_3])
        have hP9 : va_P (dC, dI) vwCl (wsF h0 q1 k1 ((u_F_set_f f a1 a2 a3))) H := by rw [← eu_f]; exact hP
        have hD9 : va_D A (wsF h0 q1 k1 ((u_F_set_f f a1 a2 a3))) := by rw [← eu_f]; exact hD
        exact W.zret (v := (1 : Int32)) hx hb hr (by decide) (fun tt ht hW => ⟨⟨(1 : Int32), (), rfl, (by subst ev_8; subst ev_11; subst ev_14; unfold f_F_set; rw [if_neg c_1, if_neg c_2, if_pos c_3]), by rw [ht]; exact hP9, hD9⟩, hS.F ht⟩) hS.2.2 dF_set_69
      · refine lv_iconst (v := (0 : Int32)) hx hb dF_set_19 (by decide) ?_
        have eu_f : f = (u_F_set_f f a1 a2 a3) := (by unfold u_F_set_f; rw [if_neg c_1, if_neg c_2, if_neg c_3])
        have hP9 : va_P (dC, dI) vwCl (wsF h0 q1 k1 ((u_F_set_f f a1 a2 a3))) H := by rw [← eu_f]; exact hP
        have hD9 : va_D A (wsF h0 q1 k1 ((u_F_set_f f a1 a2 a3))) := by rw [← eu_f]; exact hD
        exact W.zret (v := (0 : Int32)) hx hb hr (by decide) (fun tt ht hW => ⟨⟨(0 : Int32), (), rfl, (by unfold f_F_set; rw [if_neg c_1, if_neg c_2, if_neg c_3]), by rw [ht]; exact hP9, hD9⟩, hS.F ht⟩) hS.2.2 dF_set_20

set_option maxHeartbeats 4000000 in
set_option maxRecDepth 100000 in
theorem c_F_load (l : Launch) (dC : Nat → ClassId) (dI : Nat → Nat → Nat) (h0 q1 : Nat) (k1 : ClassId) (sz : Nat) (f : Nat → Int32) (a1 a2 a3 : Int32) : Met l yF_load wsF_load ({ frames := 3, cells := 0, slots := 0, locals := 63 }) (va_Pc [.ref h0, .int a1, .int a2, .int a3] (fun U => U.heap.size = sz ∧ va_P (dC, dI) vwCl (wsF h0 q1 k1 f) U.heap ∧ va_K (dC, dI) vwCl [(k1, .int)] U ∧ va_D (fun _ => True) (wsF h0 q1 k1 f))) (va_Qi (fun (r : Int32) (_ : Unit) => r = f_F_load f a1 a2 a3) (fun _ tt => va_P (dC, dI) vwCl (wsF h0 q1 k1 ((u_F_load_f f a1 a2 a3))) tt.heap ∧ va_D (va_A (wsF h0 q1 k1 f) sz) (wsF h0 q1 k1 ((u_F_load_f f a1 a2 a3)))) (va_A (wsF h0 q1 k1 f) sz)) 0 0 (va_A (wsF h0 q1 k1 f) sz) := by
  refine Met.ofW (cc := prog_1_method_5_code) (maxL := 4) (ret := (some .boolean)) (by decide) rfl ?_
  intro p e s m args below meth c s₁ B hml hv
  obtain ⟨rfl, hsz, hP, hK, hD0⟩ := hv
  have hx := B.exec
  have hb := B.bytes
  have hr := B.returns
  have hts := fun (w : Cond) (h : w ∈ gw) => atoms_spec (ws := wsF_load) B.pre w (List.mem_cons_of_mem _ h)
  have hown : s.vm.findClass RF = some m.cls := findClass_of_methodNamed B.named
  have hlocks := B.notSynchronized
  subst hsz
  have hD := hD0.self (sz := s.heap.size)
  generalize hAe : va_A (wsF h0 q1 k1 f) s.heap.size = A at hD ⊢
  have hS : va_S A s.heap s.heap [] := va_S.rf
  have hl := lv_entry ([.ref h0, .int a1, .int a2, .int a3]) (n := 4) (Nat.le_of_ble_eq_true rfl)
  rw [lg_entry_eq]
  generalize (lg_sl ([.ref h0, .int a1, .int a2, .int a3]) ++ List.replicate (4 - (lg_sl ([.ref h0, .int a1, .int a2, .int a3])).length) Slot.unset).toArray = ls at hl ⊢
  have hl : lv_has ls 4 [(0, .ref h0), (1, .int a1), (2, .int a2), (3, .int a3)] := hl
  refine lv_iload_n hx hb dF_load_0 rfl (lv_at hl 1 rfl) ?_
  refine kk_callP (va_runS (As := [.int a1]) (rest := []) ⟨hx, hb, hml, hown, hts⟩ (c_F_isRegister l a1) (va_cwS 1 hts (gS tw_26 tw_27 tw_1 tw_28) rfl rfl rfl (by decide +kernel) ⟨Nat.le_of_ble_eq_true rfl, Nat.le_of_ble_eq_true rfl⟩) ⟨fun _ _ _ _ q => q, fun _ _ _ => ⟨rfl, trivial⟩⟩ rfl rfl hl.1 rfl (lv_room (Nat.le_of_ble_eq_true rfl)) dF_load_1 ⟨Nat.le_of_ble_eq_true rfl, Nat.le_of_ble_eq_true rfl⟩) hS hP (fun H locs hS hP => ?_)
  refine lv_if_eq (tgt := 22) hx hb dF_load_4 (by decide) (fun c_1 => ?_) (fun c_1 => ?_)
  · refine lv_iconst (v := (0 : Int32)) hx hb dF_load_22 (by decide) ?_
    have eu_f : f = (u_F_load_f f a1 a2 a3) := (by unfold u_F_load_f; rw [if_pos c_1])
    have hP9 : va_P (dC, dI) vwCl (wsF h0 q1 k1 ((u_F_load_f f a1 a2 a3))) H := by rw [← eu_f]; exact hP
    have hD9 : va_D A (wsF h0 q1 k1 ((u_F_load_f f a1 a2 a3))) := by rw [← eu_f]; exact hD
    exact W.zret (v := (0 : Int32)) hx hb hr (by decide) (fun tt ht hW => ⟨⟨(0 : Int32), (), rfl, (by unfold f_F_load; rw [if_pos c_1]), by rw [ht]; exact hP9, hD9⟩, hS.F ht⟩) hS.2.2 dF_load_23
  · refine lv_iload_n hx hb dF_load_7 rfl (lv_at hl 2 rfl) ?_
    refine kk_callP (va_runS (As := [.int a2]) (rest := []) ⟨hx, hb, hml, hown, hts⟩ (c_F_isRegister l a2) (va_cwS 1 hts (gS tw_26 tw_27 tw_1 tw_28) rfl rfl rfl (by decide +kernel) ⟨Nat.le_of_ble_eq_true rfl, Nat.le_of_ble_eq_true rfl⟩) ⟨fun _ _ _ _ q => q, fun _ _ _ => ⟨rfl, trivial⟩⟩ rfl rfl hl.1 rfl (lv_room (Nat.le_of_ble_eq_true rfl)) dF_load_8 ⟨Nat.le_of_ble_eq_true rfl, Nat.le_of_ble_eq_true rfl⟩) hS hP (fun H locs hS hP => ?_)
    refine lv_if_eq (tgt := 22) hx hb dF_load_11 (by decide) (fun c_2 => ?_) (fun c_2 => ?_)
    · refine lv_iconst (v := (0 : Int32)) hx hb dF_load_22 (by decide) ?_
      have eu_f : f = (u_F_load_f f a1 a2 a3) := (by unfold u_F_load_f; rw [if_neg c_1, if_pos c_2])
      have hP9 : va_P (dC, dI) vwCl (wsF h0 q1 k1 ((u_F_load_f f a1 a2 a3))) H := by rw [← eu_f]; exact hP
      have hD9 : va_D A (wsF h0 q1 k1 ((u_F_load_f f a1 a2 a3))) := by rw [← eu_f]; exact hD
      exact W.zret (v := (0 : Int32)) hx hb hr (by decide) (fun tt ht hW => ⟨⟨(0 : Int32), (), rfl, (by unfold f_F_load; rw [if_neg c_1, if_pos c_2]), by rw [ht]; exact hP9, hD9⟩, hS.F ht⟩) hS.2.2 dF_load_23
    · refine lv_aload_n hx hb dF_load_14 rfl (lv_at hl 0 rfl) ?_
      refine lv_iload_n hx hb dF_load_15 rfl (lv_at hl 3 rfl) ?_
      refine kk_callP (va_runV (As := [.int a3]) (rest := []) ⟨hx, hb, hml, hown, hts⟩ (c_F_isField l h0 a3) (cwV 1 hts (gV tw_55 tw_56 tw_57 tw_1 tw_58) rfl rfl rfl (by decide +kernel) ⟨Nat.le_of_ble_eq_true rfl, Nat.le_of_ble_eq_true rfl⟩) ⟨fun _ _ _ _ q => q, va_recv hK hP (ci := 0) (q0 := 0) rfl rfl, fun _ _ _ => ⟨rfl, trivial⟩⟩ rfl rfl hl.1 rfl (lv_room (Nat.le_of_ble_eq_true rfl)) dF_load_16 ⟨Nat.le_of_ble_eq_true rfl, Nat.le_of_ble_eq_true rfl⟩) hS hP (fun H locs hS hP => ?_)
      refine lv_if_ne (tgt := 24) hx hb dF_load_19 (by decide) (fun c_3 => ?_) (fun c_3 => ?_)
      · refine lv_aload_n hx hb dF_load_24 rfl (lv_at hl 0 rfl) ?_
        refine va_get (D := (dC, dI)) (ci := 0) (v := .ref q1) (C := RF) (T := TF) (N := 1) hx hb hts iF hown hK hP 0 rfl rfl 0 (by decide) (hts _ tw_17) (fun _ h9 => h9) rfl dF_load_25 ?_
        refine lv_iload_n hx hb dF_load_28 rfl (lv_at hl 1 rfl) ?_
        refine lv_aload_n hx hb dF_load_29 rfl (lv_at hl 0 rfl) ?_
        refine va_get (D := (dC, dI)) (ci := 0) (v := .ref q1) (C := RF) (T := TF) (N := 1) hx hb hts iF hown hK hP 0 rfl rfl 0 (by decide) (hts _ tw_17) (fun _ h9 => h9) rfl dF_load_30 ?_
        refine lv_iload_n hx hb dF_load_33 rfl (lv_at hl 2 rfl) ?_
        refine va_iald hx hb hK hP 1 0 rfl rfl (in_F c_2) dF_load_34 ?_
        refine lv_iload_n hx hb dF_load_35 rfl (lv_at hl 3 rfl) ?_
        refine kk_callP (va_runS (As := [.int (f a2.toNatClampNeg), .int a3]) (rest := [.int a1, .ref q1]) ⟨hx, hb, hml, hown, hts⟩ (c_F_fieldOf l (f a2.toNatClampNeg) a3) (va_cwS 2 hts (gS tw_65 tw_66 tw_1 tw_67) rfl rfl rfl (by decide +kernel) ⟨Nat.le_of_ble_eq_true rfl, Nat.le_of_ble_eq_true rfl⟩) ⟨fun _ _ _ _ q => q, fun _ _ _ => ⟨rfl, trivial⟩⟩ rfl rfl hl.1 rfl (lv_room (Nat.le_of_ble_eq_true rfl)) dF_load_36 ⟨Nat.le_of_ble_eq_true rfl, Nat.le_of_ble_eq_true rfl⟩) hS hP (fun H locs hS hP => ?_)
        refine va_iast hx hb hK hP hD hS 1 0 rfl rfl (in_F c_1) dF_load_39 (fun H locs hP hD hS => ?_)
        have hP : va_P (dC, dI) vwCl (wsF h0 q1 k1 (upd f a1.toNatClampNeg (f_F_fieldOf (f a2.toNatClampNeg) a3))) H := hP
        have hD : va_D A (wsF h0 q1 k1 (upd f a1.toNatClampNeg (f_F_fieldOf (f a2.toNatClampNeg) a3))) := hD
        refine lv_iconst (v := (1 : Int32)) hx hb dF_load_40 (by decide) ?_
        have eu_f : upd f a1.toNatClampNeg (f_F_fieldOf (f a2.toNatClampNeg) a3) = (u_F_load_f f a1 a2 a3) := (by unfold u_F_load_f; rw [if_neg c_1, if_neg c_2, if_neg c_3])
        have hP9 : va_P (dC, dI) vwCl (wsF h0 q1 k1 ((u_F_load_f f a1 a2 a3))) H := by rw [← eu_f]; exact hP
        have hD9 : va_D A (wsF h0 q1 k1 ((u_F_load_f f a1 a2 a3))) := by rw [← eu_f]; exact hD
        exact W.zret (v := (1 : Int32)) hx hb hr (by decide) (fun tt ht hW => ⟨⟨(1 : Int32), (), rfl, (by unfold f_F_load; rw [if_neg c_1, if_neg c_2, if_neg c_3]), by rw [ht]; exact hP9, hD9⟩, hS.F ht⟩) hS.2.2 dF_load_41
      · refine lv_iconst (v := (0 : Int32)) hx hb dF_load_22 (by decide) ?_
        have eu_f : f = (u_F_load_f f a1 a2 a3) := (by unfold u_F_load_f; rw [if_neg c_1, if_neg c_2, if_pos c_3])
        have hP9 : va_P (dC, dI) vwCl (wsF h0 q1 k1 ((u_F_load_f f a1 a2 a3))) H := by rw [← eu_f]; exact hP
        have hD9 : va_D A (wsF h0 q1 k1 ((u_F_load_f f a1 a2 a3))) := by rw [← eu_f]; exact hD
        exact W.zret (v := (0 : Int32)) hx hb hr (by decide) (fun tt ht hW => ⟨⟨(0 : Int32), (), rfl, (by unfold f_F_load; rw [if_neg c_1, if_neg c_2, if_pos c_3]), by rw [ht]; exact hP9, hD9⟩, hS.F ht⟩) hS.2.2 dF_load_23

set_option maxHeartbeats 4000000 in
set_option maxRecDepth 100000 in
theorem c_F_store (l : Launch) (dC : Nat → ClassId) (dI : Nat → Nat → Nat) (h0 q1 : Nat) (k1 : ClassId) (sz : Nat) (f : Nat → Int32) (a1 a2 a3 : Int32) : Met l yF_store wsF_store ({ frames := 2, cells := 0, slots := 0, locals := 41 }) (va_Pc [.ref h0, .int a1, .int a2, .int a3] (fun U => U.heap.size = sz ∧ va_P (dC, dI) vwCl (wsF h0 q1 k1 f) U.heap ∧ va_K (dC, dI) vwCl [(k1, .int)] U ∧ va_D (fun _ => True) (wsF h0 q1 k1 f))) (va_Qi (fun (r : Int32) (_ : Unit) => r = f_F_store f a1 a2 a3) (fun _ tt => va_P (dC, dI) vwCl (wsF h0 q1 k1 ((u_F_store_f f a1 a2 a3))) tt.heap ∧ va_D (va_A (wsF h0 q1 k1 f) sz) (wsF h0 q1 k1 ((u_F_store_f f a1 a2 a3)))) (va_A (wsF h0 q1 k1 f) sz)) 0 0 (va_A (wsF h0 q1 k1 f) sz) := by
  refine Met.ofW (cc := prog_1_method_6_code) (maxL := 7) (ret := (some .boolean)) (by decide) rfl ?_
  intro p e s m args below meth c s₁ B hml hv
  obtain ⟨rfl, hsz, hP, hK, hD0⟩ := hv
  have hx := B.exec
  have hb := B.bytes
  have hr := B.returns
  have hts := fun (w : Cond) (h : w ∈ gw) => atoms_spec (ws := wsF_store) B.pre w (List.mem_cons_of_mem _ h)
  have hown : s.vm.findClass RF = some m.cls := findClass_of_methodNamed B.named
  have hlocks := B.notSynchronized
  subst hsz
  have hD := hD0.self (sz := s.heap.size)
  generalize hAe : va_A (wsF h0 q1 k1 f) s.heap.size = A at hD ⊢
  have hS : va_S A s.heap s.heap [] := va_S.rf
  have hl := lv_entry ([.ref h0, .int a1, .int a2, .int a3]) (n := 7) (Nat.le_of_ble_eq_true rfl)
  rw [lg_entry_eq]
  generalize (lg_sl ([.ref h0, .int a1, .int a2, .int a3]) ++ List.replicate (7 - (lg_sl ([.ref h0, .int a1, .int a2, .int a3])).length) Slot.unset).toArray = ls at hl ⊢
  have hl : lv_has ls 7 [(0, .ref h0), (1, .int a1), (2, .int a2), (3, .int a3)] := hl
  refine lv_iload_n hx hb dF_store_0 rfl (lv_at hl 1 rfl) ?_
  refine kk_callP (va_runS (As := [.int a1]) (rest := []) ⟨hx, hb, hml, hown, hts⟩ (c_F_isRegister l a1) (va_cwS 1 hts (gS tw_26 tw_27 tw_1 tw_28) rfl rfl rfl (by decide +kernel) ⟨Nat.le_of_ble_eq_true rfl, Nat.le_of_ble_eq_true rfl⟩) ⟨fun _ _ _ _ q => q, fun _ _ _ => ⟨rfl, trivial⟩⟩ rfl rfl hl.1 rfl (lv_room (Nat.le_of_ble_eq_true rfl)) dF_store_1 ⟨Nat.le_of_ble_eq_true rfl, Nat.le_of_ble_eq_true rfl⟩) hS hP (fun H locs hS hP => ?_)
  refine lv_if_eq (tgt := 22) hx hb dF_store_4 (by decide) (fun c_1 => ?_) (fun c_1 => ?_)
  · refine lv_iconst (v := (0 : Int32)) hx hb dF_store_22 (by decide) ?_
    have eu_f : f = (u_F_store_f f a1 a2 a3) := (by unfold u_F_store_f; rw [if_pos c_1])
    have hP9 : va_P (dC, dI) vwCl (wsF h0 q1 k1 ((u_F_store_f f a1 a2 a3))) H := by rw [← eu_f]; exact hP
    have hD9 : va_D A (wsF h0 q1 k1 ((u_F_store_f f a1 a2 a3))) := by rw [← eu_f]; exact hD
    exact W.zret (v := (0 : Int32)) hx hb hr (by decide) (fun tt ht hW => ⟨⟨(0 : Int32), (), rfl, (by unfold f_F_store; rw [if_pos c_1]), by rw [ht]; exact hP9, hD9⟩, hS.F ht⟩) hS.2.2 dF_store_23
  · refine lv_iload_n hx hb dF_store_7 rfl (lv_at hl 2 rfl) ?_
    refine kk_callP (va_runS (As := [.int a2]) (rest := []) ⟨hx, hb, hml, hown, hts⟩ (c_F_isRegister l a2) (va_cwS 1 hts (gS tw_26 tw_27 tw_1 tw_28) rfl rfl rfl (by decide +kernel) ⟨Nat.le_of_ble_eq_true rfl, Nat.le_of_ble_eq_true rfl⟩) ⟨fun _ _ _ _ q => q, fun _ _ _ => ⟨rfl, trivial⟩⟩ rfl rfl hl.1 rfl (lv_room (Nat.le_of_ble_eq_true rfl)) dF_store_8 ⟨Nat.le_of_ble_eq_true rfl, Nat.le_of_ble_eq_true rfl⟩) hS hP (fun H locs hS hP => ?_)
    refine lv_if_eq (tgt := 22) hx hb dF_store_11 (by decide) (fun c_2 => ?_) (fun c_2 => ?_)
    · refine lv_iconst (v := (0 : Int32)) hx hb dF_store_22 (by decide) ?_
      have eu_f : f = (u_F_store_f f a1 a2 a3) := (by unfold u_F_store_f; rw [if_neg c_1, if_pos c_2])
      have hP9 : va_P (dC, dI) vwCl (wsF h0 q1 k1 ((u_F_store_f f a1 a2 a3))) H := by rw [← eu_f]; exact hP
      have hD9 : va_D A (wsF h0 q1 k1 ((u_F_store_f f a1 a2 a3))) := by rw [← eu_f]; exact hD
      exact W.zret (v := (0 : Int32)) hx hb hr (by decide) (fun tt ht hW => ⟨⟨(0 : Int32), (), rfl, (by unfold f_F_store; rw [if_neg c_1, if_pos c_2]), by rw [ht]; exact hP9, hD9⟩, hS.F ht⟩) hS.2.2 dF_store_23
    · refine lv_aload_n hx hb dF_store_14 rfl (lv_at hl 0 rfl) ?_
      refine lv_iload_n hx hb dF_store_15 rfl (lv_at hl 3 rfl) ?_
      refine kk_callP (va_runV (As := [.int a3]) (rest := []) ⟨hx, hb, hml, hown, hts⟩ (c_F_isField l h0 a3) (cwV 1 hts (gV tw_55 tw_56 tw_57 tw_1 tw_58) rfl rfl rfl (by decide +kernel) ⟨Nat.le_of_ble_eq_true rfl, Nat.le_of_ble_eq_true rfl⟩) ⟨fun _ _ _ _ q => q, va_recv hK hP (ci := 0) (q0 := 0) rfl rfl, fun _ _ _ => ⟨rfl, trivial⟩⟩ rfl rfl hl.1 rfl (lv_room (Nat.le_of_ble_eq_true rfl)) dF_store_16 ⟨Nat.le_of_ble_eq_true rfl, Nat.le_of_ble_eq_true rfl⟩) hS hP (fun H locs hS hP => ?_)
      refine lv_if_ne (tgt := 24) hx hb dF_store_19 (by decide) (fun c_3 => ?_) (fun c_3 => ?_)
      · refine lv_aload_n hx hb dF_store_24 rfl (lv_at hl 0 rfl) ?_
        refine va_get (D := (dC, dI)) (ci := 0) (v := .ref q1) (C := RF) (T := TF) (N := 1) hx hb hts iF hown hK hP 0 rfl rfl 0 (by decide) (hts _ tw_17) (fun _ h9 => h9) rfl dF_store_25 ?_
        refine lv_iload_n hx hb dF_store_28 rfl (lv_at hl 2 rfl) ?_
        refine va_iald hx hb hK hP 1 0 rfl rfl (in_F c_2) dF_store_29 ?_
        refine lv_istore (lv' := [(4, .int (f a2.toNatClampNeg)), (0, .ref h0), (1, .int a1), (2, .int a2), (3, .int a3)]) hx hb dF_store_30 hl (by decide) rfl (fun ls hl => ?_)
        refine lv_iload hx hb dF_store_32 (lv_at hl 0 rfl) ?_
        refine lv_iload_n hx hb dF_store_34 rfl (lv_at hl 4 rfl) ?_
        refine kk_callP (va_runS (As := [.int a3]) (rest := [.int (f a2.toNatClampNeg)]) ⟨hx, hb, hml, hown, hts⟩ (c_F_rightMask l a3) (va_cwS 1 hts (gS tw_68 tw_69 tw_1 tw_70) rfl rfl rfl (by decide +kernel) ⟨Nat.le_of_ble_eq_true rfl, Nat.le_of_ble_eq_true rfl⟩) ⟨fun _ _ _ _ q => q, fun _ _ _ => ⟨rfl, trivial⟩⟩ rfl rfl hl.1 rfl (lv_room (Nat.le_of_ble_eq_true rfl)) dF_store_35 ⟨Nat.le_of_ble_eq_true rfl, Nat.le_of_ble_eq_true rfl⟩) hS hP (fun H locs hS hP => ?_)
        refine lv_iand hx hb dF_store_38 ?_
        refine lv_iload_n hx hb dF_store_39 rfl (lv_at hl 4 rfl) ?_
        refine kk_callP (va_runS (As := [.int a3]) (rest := [.int ((f a2.toNatClampNeg) &&& (f_F_rightMask a3))]) ⟨hx, hb, hml, hown, hts⟩ (c_F_lastByte l a3) (va_cwS 1 hts (gS tw_62 tw_63 tw_1 tw_64) rfl rfl rfl (by decide +kernel) ⟨Nat.le_of_ble_eq_true rfl, Nat.le_of_ble_eq_true rfl⟩) ⟨fun _ _ _ _ q => q, fun _ _ _ => ⟨rfl, trivial⟩⟩ rfl rfl hl.1 rfl (lv_room (Nat.le_of_ble_eq_true rfl)) dF_store_40 ⟨Nat.le_of_ble_eq_true rfl, Nat.le_of_ble_eq_true rfl⟩) hS hP (fun H locs hS hP => ?_)
        refine kk_callP (va_runS (As := [.int (f_F_lastByte a3)]) (rest := [.int ((f a2.toNatClampNeg) &&& (f_F_rightMask a3))]) ⟨hx, hb, hml, hown, hts⟩ (c_F_bitsRightOf l (f_F_lastByte a3)) (va_cwS 1 hts (gS tw_48 tw_49 tw_1 tw_50) rfl rfl rfl (by decide +kernel) ⟨Nat.le_of_ble_eq_true rfl, Nat.le_of_ble_eq_true rfl⟩) ⟨fun _ _ _ _ q => q, fun _ _ _ => ⟨rfl, trivial⟩⟩ rfl rfl hl.1 rfl (lv_room (Nat.le_of_ble_eq_true rfl)) dF_store_43 ⟨Nat.le_of_ble_eq_true rfl, Nat.le_of_ble_eq_true rfl⟩) hS hP (fun H locs hS hP => ?_)
        refine lv_ishl hx hb dF_store_46 ?_
        refine lv_topi (fun x_4 ex_4 => ?_)
        refine lv_istore (lv' := [(5, .int x_4), (4, .int (f a2.toNatClampNeg)), (0, .ref h0), (1, .int a1), (2, .int a2), (3, .int a3)]) hx hb dF_store_47 hl (by decide) rfl (fun ls hl => ?_)
        refine lv_iload_n hx hb dF_store_49 rfl (lv_at hl 5 rfl) ?_
        refine kk_callP (va_runS (As := [.int a3]) (rest := []) ⟨hx, hb, hml, hown, hts⟩ (c_F_rightMask l a3) (va_cwS 1 hts (gS tw_68 tw_69 tw_1 tw_70) rfl rfl rfl (by decide +kernel) ⟨Nat.le_of_ble_eq_true rfl, Nat.le_of_ble_eq_true rfl⟩) ⟨fun _ _ _ _ q => q, fun _ _ _ => ⟨rfl, trivial⟩⟩ rfl rfl hl.1 rfl (lv_room (Nat.le_of_ble_eq_true rfl)) dF_store_50 ⟨Nat.le_of_ble_eq_true rfl, Nat.le_of_ble_eq_true rfl⟩) hS hP (fun H locs hS hP => ?_)
        refine lv_iload_n hx hb dF_store_53 rfl (lv_at hl 5 rfl) ?_
        refine kk_callP (va_runS (As := [.int a3]) (rest := [.int (f_F_rightMask a3)]) ⟨hx, hb, hml, hown, hts⟩ (c_F_lastByte l a3) (va_cwS 1 hts (gS tw_62 tw_63 tw_1 tw_64) rfl rfl rfl (by decide +kernel) ⟨Nat.le_of_ble_eq_true rfl, Nat.le_of_ble_eq_true rfl⟩) ⟨fun _ _ _ _ q => q, fun _ _ _ => ⟨rfl, trivial⟩⟩ rfl rfl hl.1 rfl (lv_room (Nat.le_of_ble_eq_true rfl)) dF_store_54 ⟨Nat.le_of_ble_eq_true rfl, Nat.le_of_ble_eq_true rfl⟩) hS hP (fun H locs hS hP => ?_)
        refine kk_callP (va_runS (As := [.int (f_F_lastByte a3)]) (rest := [.int (f_F_rightMask a3)]) ⟨hx, hb, hml, hown, hts⟩ (c_F_bitsRightOf l (f_F_lastByte a3)) (va_cwS 1 hts (gS tw_48 tw_49 tw_1 tw_50) rfl rfl rfl (by decide +kernel) ⟨Nat.le_of_ble_eq_true rfl, Nat.le_of_ble_eq_true rfl⟩) ⟨fun _ _ _ _ q => q, fun _ _ _ => ⟨rfl, trivial⟩⟩ rfl rfl hl.1 rfl (lv_room (Nat.le_of_ble_eq_true rfl)) dF_store_57 ⟨Nat.le_of_ble_eq_true rfl, Nat.le_of_ble_eq_true rfl⟩) hS hP (fun H locs hS hP => ?_)
        refine lv_ishl hx hb dF_store_60 ?_
        refine lv_iload_n hx hb dF_store_61 rfl (lv_at hl 5 rfl) ?_
        refine kk_callP (va_runS (As := [.int a3]) (rest := [.int ((f_F_rightMask a3) <<< ((f_F_bitsRightOf (f_F_lastByte a3)) &&& 31))]) ⟨hx, hb, hml, hown, hts⟩ (c_F_signMask l a3) (va_cwS 1 hts (gS tw_74 tw_75 tw_1 tw_76) rfl rfl rfl (by decide +kernel) ⟨Nat.le_of_ble_eq_true rfl, Nat.le_of_ble_eq_true rfl⟩) ⟨fun _ _ _ _ q => q, fun _ _ _ => ⟨rfl, trivial⟩⟩ rfl rfl hl.1 rfl (lv_room (Nat.le_of_ble_eq_true rfl)) dF_store_62 ⟨Nat.le_of_ble_eq_true rfl, Nat.le_of_ble_eq_true rfl⟩) hS hP (fun H locs hS hP => ?_)
        refine lv_ior hx hb dF_store_65 ?_
        refine lv_topi (fun x_5 ex_5 => ?_)
        refine lv_istore (lv' := [(6, .int x_5), (5, .int x_4), (4, .int (f a2.toNatClampNeg)), (0, .ref h0), (1, .int a1), (2, .int a2), (3, .int a3)]) hx hb dF_store_66 hl (by decide) rfl (fun ls hl => ?_)
        refine lv_aload_n hx hb dF_store_68 rfl (lv_at hl 3 rfl) ?_
        refine va_get (D := (dC, dI)) (ci := 0) (v := .ref q1) (C := RF) (T := TF) (N := 1) hx hb hts iF hown hK hP 0 rfl rfl 0 (by decide) (hts _ tw_17) (fun _ h9 => h9) rfl dF_store_69 ?_
        refine lv_iload_n hx hb dF_store_72 rfl (lv_at hl 4 rfl) ?_
        refine lv_aload_n hx hb dF_store_73 rfl (lv_at hl 3 rfl) ?_
        refine va_get (D := (dC, dI)) (ci := 0) (v := .ref q1) (C := RF) (T := TF) (N := 1) hx hb hts iF hown hK hP 0 rfl rfl 0 (by decide) (hts _ tw_17) (fun _ h9 => h9) rfl dF_store_74 ?_
        refine lv_iload_n hx hb dF_store_77 rfl (lv_at hl 4 rfl) ?_
        refine va_iald hx hb hK hP 1 0 rfl rfl (in_F c_1) dF_store_78 ?_
        refine lv_iload hx hb dF_store_79 (lv_at hl 0 rfl) ?_
        refine lv_iconst (v := (-1 : Int32)) hx hb dF_store_81 (by decide) ?_
        refine lv_ixor hx hb dF_store_82 ?_
        refine lv_iand hx hb dF_store_83 ?_
        refine lv_iload hx hb dF_store_84 (lv_at hl 1 rfl) ?_
        refine lv_ior hx hb dF_store_86 ?_
        refine lv_iload hx hb dF_store_87 (lv_at hl 2 rfl) ?_
        refine lv_iload_n hx hb dF_store_89 rfl (lv_at hl 6 rfl) ?_
        refine kk_callP (va_runS (As := [.int a3]) (rest := [.int (f a2.toNatClampNeg), .int (((f a1.toNatClampNeg) &&& (x_5 ^^^ (-1 : Int32))) ||| x_4), .int a1, .ref q1]) ⟨hx, hb, hml, hown, hts⟩ (c_F_signMask l a3) (va_cwS 1 hts (gS tw_74 tw_75 tw_1 tw_76) rfl rfl rfl (by decide +kernel) ⟨Nat.le_of_ble_eq_true rfl, Nat.le_of_ble_eq_true rfl⟩) ⟨fun _ _ _ _ q => q, fun _ _ _ => ⟨rfl, trivial⟩⟩ rfl rfl hl.1 rfl (lv_room (Nat.le_of_ble_eq_true rfl)) dF_store_90 ⟨Nat.le_of_ble_eq_true rfl, Nat.le_of_ble_eq_true rfl⟩) hS hP (fun H locs hS hP => ?_)
        refine lv_iand hx hb dF_store_93 ?_
        refine lv_ior hx hb dF_store_94 ?_
        refine va_iast hx hb hK hP hD hS 1 0 rfl rfl (in_F c_1) dF_store_95 (fun H locs hP hD hS => ?_)
        have hP : va_P (dC, dI) vwCl (wsF h0 q1 k1 (upd f a1.toNatClampNeg ((((f a1.toNatClampNeg) &&& (x_5 ^^^ (-1 : Int32))) ||| x_4) ||| ((f a2.toNatClampNeg) &&& (f_F_signMask a3))))) H := hP
        have hD : va_D A (wsF h0 q1 k1 (upd f a1.toNatClampNeg ((((f a1.toNatClampNeg) &&& (x_5 ^^^ (-1 : Int32))) ||| x_4) ||| ((f a2.toNatClampNeg) &&& (f_F_signMask a3))))) := hD
        refine lv_iconst (v := (1 : Int32)) hx hb dF_store_96 (by decide) ?_
        have eu_f : upd f a1.toNatClampNeg ((((f a1.toNatClampNeg) &&& (x_5 ^^^ (-1 : Int32))) ||| x_4) ||| ((f a2.toNatClampNeg) &&& (f_F_signMask a3))) = (u_F_store_f f a1 a2 a3) := (by subst ex_4; subst ex_5; unfold u_F_store_f; rw [if_neg c_1, if_neg c_2, if_neg c_3])
        have hP9 : va_P (dC, dI) vwCl (wsF h0 q1 k1 ((u_F_store_f f a1 a2 a3))) H := by rw [← eu_f]; exact hP
        have hD9 : va_D A (wsF h0 q1 k1 ((u_F_store_f f a1 a2 a3))) := by rw [← eu_f]; exact hD
        exact W.zret (v := (1 : Int32)) hx hb hr (by decide) (fun tt ht hW => ⟨⟨(1 : Int32), (), rfl, (by subst ex_4; subst ex_5; unfold f_F_store; rw [if_neg c_1, if_neg c_2, if_neg c_3]), by rw [ht]; exact hP9, hD9⟩, hS.F ht⟩) hS.2.2 dF_store_97
      · refine lv_iconst (v := (0 : Int32)) hx hb dF_store_22 (by decide) ?_
        have eu_f : f = (u_F_store_f f a1 a2 a3) := (by unfold u_F_store_f; rw [if_neg c_1, if_neg c_2, if_pos c_3])
        have hP9 : va_P (dC, dI) vwCl (wsF h0 q1 k1 ((u_F_store_f f a1 a2 a3))) H := by rw [← eu_f]; exact hP
        have hD9 : va_D A (wsF h0 q1 k1 ((u_F_store_f f a1 a2 a3))) := by rw [← eu_f]; exact hD
        exact W.zret (v := (0 : Int32)) hx hb hr (by decide) (fun tt ht hW => ⟨⟨(0 : Int32), (), rfl, (by unfold f_F_store; rw [if_neg c_1, if_neg c_2, if_pos c_3]), by rw [ht]; exact hP9, hD9⟩, hS.F ht⟩) hS.2.2 dF_store_23

set_option maxHeartbeats 4000000 in
set_option maxRecDepth 100000 in
theorem c_F_turn (l : Launch) (dC : Nat → ClassId) (dI : Nat → Nat → Nat) (h0 q1 : Nat) (k1 : ClassId) (sz : Nat) (f : Nat → Int32) (a1 : Int32) : Met l yF_turn wsF_turn ({ frames := 1, cells := 0, slots := 0, locals := 20 }) (va_Pc [.ref h0, .int a1] (fun U => U.heap.size = sz ∧ va_P (dC, dI) vwCl (wsF h0 q1 k1 f) U.heap ∧ va_K (dC, dI) vwCl [(k1, .int)] U ∧ va_D (fun _ => True) (wsF h0 q1 k1 f))) (va_Qi (fun (r : Int32) (_ : Unit) => r = f_F_turn f a1) (fun _ tt => va_P (dC, dI) vwCl (wsF h0 q1 k1 ((u_F_turn_f f a1))) tt.heap ∧ va_D (va_A (wsF h0 q1 k1 f) sz) (wsF h0 q1 k1 ((u_F_turn_f f a1)))) (va_A (wsF h0 q1 k1 f) sz)) 0 0 (va_A (wsF h0 q1 k1 f) sz) := by
  refine Met.ofW (cc := prog_1_method_7_code) (maxL := 2) (ret := (some .boolean)) (by decide) rfl ?_
  intro p e s m args below meth c s₁ B hml hv
  obtain ⟨rfl, hsz, hP, hK, hD0⟩ := hv
  have hx := B.exec
  have hb := B.bytes
  have hr := B.returns
  have hts := fun (w : Cond) (h : w ∈ gw) => atoms_spec (ws := wsF_turn) B.pre w (List.mem_cons_of_mem _ h)
  have hown : s.vm.findClass RF = some m.cls := findClass_of_methodNamed B.named
  have hlocks := B.notSynchronized
  subst hsz
  have hD := hD0.self (sz := s.heap.size)
  generalize hAe : va_A (wsF h0 q1 k1 f) s.heap.size = A at hD ⊢
  have hS : va_S A s.heap s.heap [] := va_S.rf
  have hl := lv_entry ([.ref h0, .int a1]) (n := 2) (Nat.le_of_ble_eq_true rfl)
  rw [lg_entry_eq]
  generalize (lg_sl ([.ref h0, .int a1]) ++ List.replicate (2 - (lg_sl ([.ref h0, .int a1])).length) Slot.unset).toArray = ls at hl ⊢
  have hl : lv_has ls 2 [(0, .ref h0), (1, .int a1)] := hl
  refine lv_iload_n hx hb dF_turn_0 rfl (lv_at hl 1 rfl) ?_
  refine kk_callP (va_runS (As := [.int a1]) (rest := []) ⟨hx, hb, hml, hown, hts⟩ (c_F_isRegister l a1) (va_cwS 1 hts (gS tw_26 tw_27 tw_1 tw_28) rfl rfl rfl (by decide +kernel) ⟨Nat.le_of_ble_eq_true rfl, Nat.le_of_ble_eq_true rfl⟩) ⟨fun _ _ _ _ q => q, fun _ _ _ => ⟨rfl, trivial⟩⟩ rfl rfl hl.1 rfl (lv_room (Nat.le_of_ble_eq_true rfl)) dF_turn_1 ⟨Nat.le_of_ble_eq_true rfl, Nat.le_of_ble_eq_true rfl⟩) hS hP (fun H locs hS hP => ?_)
  refine lv_if_ne (tgt := 9) hx hb dF_turn_4 (by decide) (fun c_1 => ?_) (fun c_1 => ?_)
  · refine lv_aload_n hx hb dF_turn_9 rfl (lv_at hl 0 rfl) ?_
    refine va_get (D := (dC, dI)) (ci := 0) (v := .ref q1) (C := RF) (T := TF) (N := 1) hx hb hts iF hown hK hP 0 rfl rfl 0 (by decide) (hts _ tw_17) (fun _ h9 => h9) rfl dF_turn_10 ?_
    refine lv_iload_n hx hb dF_turn_13 rfl (lv_at hl 1 rfl) ?_
    refine lv_dup2_11 hx hb dF_turn_14 rfl rfl ?_
    refine va_iald hx hb hK hP 1 0 rfl rfl (in_F c_1) dF_turn_15 ?_
    refine lv_ldc (v := (1073741824 : Int32)) hx hb hown (hts _ tw_31) dF_turn_16 ?_
    refine lv_ixor hx hb dF_turn_18 ?_
    refine va_iast hx hb hK hP hD hS 1 0 rfl rfl (in_F c_1) dF_turn_19 (fun H locs hP hD hS => ?_)
    have hP : va_P (dC, dI) vwCl (wsF h0 q1 k1 (upd f a1.toNatClampNeg ((f a1.toNatClampNeg) ^^^ (1073741824 : Int32)))) H := hP
    have hD : va_D A (wsF h0 q1 k1 (upd f a1.toNatClampNeg ((f a1.toNatClampNeg) ^^^ (1073741824 : Int32)))) := hD
    refine lv_iconst (v := (1 : Int32)) hx hb dF_turn_20 (by decide) ?_
    have eu_f : upd f a1.toNatClampNeg ((f a1.toNatClampNeg) ^^^ (1073741824 : Int32)) = (u_F_turn_f f a1) := (by unfold u_F_turn_f; rw [if_neg c_1])
    have hP9 : va_P (dC, dI) vwCl (wsF h0 q1 k1 ((u_F_turn_f f a1))) H := by rw [← eu_f]; exact hP
    have hD9 : va_D A (wsF h0 q1 k1 ((u_F_turn_f f a1))) := by rw [← eu_f]; exact hD
    exact W.zret (v := (1 : Int32)) hx hb hr (by decide) (fun tt ht hW => ⟨⟨(1 : Int32), (), rfl, (by unfold f_F_turn; rw [if_neg c_1]), by rw [ht]; exact hP9, hD9⟩, hS.F ht⟩) hS.2.2 dF_turn_21
  · refine lv_iconst (v := (0 : Int32)) hx hb dF_turn_7 (by decide) ?_
    have eu_f : f = (u_F_turn_f f a1) := (by unfold u_F_turn_f; rw [if_pos c_1])
    have hP9 : va_P (dC, dI) vwCl (wsF h0 q1 k1 ((u_F_turn_f f a1))) H := by rw [← eu_f]; exact hP
    have hD9 : va_D A (wsF h0 q1 k1 ((u_F_turn_f f a1))) := by rw [← eu_f]; exact hD
    exact W.zret (v := (0 : Int32)) hx hb hr (by decide) (fun tt ht hW => ⟨⟨(0 : Int32), (), rfl, (by unfold f_F_turn; rw [if_pos c_1]), by rw [ht]; exact hP9, hD9⟩, hS.F ht⟩) hS.2.2 dF_turn_8
