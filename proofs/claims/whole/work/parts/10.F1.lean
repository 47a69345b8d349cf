set_option maxHeartbeats 4000000 in
set_option maxRecDepth 100000 in
theorem c_F_isRegister (l : Launch) (a1 : Int32) : Met l yF_isRegister wsF_isRegister ({ frames := 0, cells := 0, slots := 0, locals := 0 }) (va_Pc [.int a1] (fun _ => True)) (va_Qi (fun (r : Int32) (_ : Unit) => r = f_F_isRegister a1) (fun _ _ => True) (fun _ => False)) 0 0 (fun _ => False) := by
  refine Met.ofW (cc := prog_1_method_12_code) (maxL := 1) (ret := (some .boolean)) (by decide) rfl ?_
  intro p e s m args below meth c s₁ B hml hv
  obtain ⟨rfl, -⟩ := hv
  have hx := B.exec
  have hb := B.bytes
  have hr := B.returns
  have hts := fun (w : Cond) (h : w ∈ gw) => atoms_spec (ws := wsF_isRegister) B.pre w (List.mem_cons_of_mem _ h)
  have hown : s.vm.findClass RF = some m.cls := findClass_of_methodNamed B.named
  have hlocks := B.notSynchronized
  have hS : va_S (fun _ => False) s.heap s.heap [] := va_S.rf
  have hl := lv_entry ([.int a1]) (n := 1) (Nat.le_of_ble_eq_true rfl)
  rw [lg_entry_eq]
  generalize (lg_sl ([.int a1]) ++ List.replicate (1 - (lg_sl ([.int a1])).length) Slot.unset).toArray = ls at hl ⊢
  have hl : lv_has ls 1 [(0, .int a1)] := hl
  refine lv_iload_n hx hb dF_isRegister_0 rfl (lv_at hl 0 rfl) ?_
  refine lv_if_lt (tgt := 14) hx hb dF_isRegister_1 (by decide) (fun c_1 => ?_) (fun c_1 => ?_)
  · refine lv_iconst (v := (0 : Int32)) hx hb dF_isRegister_14 (by decide) ?_
    exact W.zret (v := (0 : Int32)) hx hb hr (by decide) (fun tt ht hW => ⟨⟨(0 : Int32), (), rfl, (by unfold f_F_isRegister; rw [if_pos c_1]), trivial⟩, hS.F ht⟩) hS.2.2 dF_isRegister_15
  · refine lv_iload_n hx hb dF_isRegister_4 rfl (lv_at hl 0 rfl) ?_
    refine lv_bipush (v := (16 : Int32)) hx hb dF_isRegister_5 (by decide) ?_
    refine lv_icmp_ge (tgt := 14) hx hb dF_isRegister_7 (by decide) (fun c_2 => ?_) (fun c_2 => ?_)
    · refine lv_iconst (v := (0 : Int32)) hx hb dF_isRegister_14 (by decide) ?_
      exact W.zret (v := (0 : Int32)) hx hb hr (by decide) (fun tt ht hW => ⟨⟨(0 : Int32), (), rfl, (by unfold f_F_isRegister; rw [if_neg c_1, if_pos c_2]), trivial⟩, hS.F ht⟩) hS.2.2 dF_isRegister_15
    · refine lv_iconst (v := (1 : Int32)) hx hb dF_isRegister_10 (by decide) ?_
      refine lv_goto (tgt := 15) hx hb dF_isRegister_11 (by decide) ?_
      exact W.zret (v := (1 : Int32)) hx hb hr (by decide) (fun tt ht hW => ⟨⟨(1 : Int32), (), rfl, (by unfold f_F_isRegister; rw [if_neg c_1, if_neg c_2]), trivial⟩, hS.F ht⟩) hS.2.2 dF_isRegister_15

set_option maxHeartbeats 4000000 in
set_option maxRecDepth 100000 in
theorem c_F_isMinus (l : Launch) (a1 : Int32) : Met l yF_isMinus wsF_isMinus ({ frames := 0, cells := 0, slots := 0, locals := 0 }) (va_Pc [.int a1] (fun _ => True)) (va_Qi (fun (r : Int32) (_ : Unit) => r = f_F_isMinus a1) (fun _ _ => True) (fun _ => False)) 0 0 (fun _ => False) := by
  refine Met.ofW (cc := prog_1_method_13_code) (maxL := 1) (ret := (some .boolean)) (by decide) rfl ?_
  intro p e s m args below meth c s₁ B hml hv
  obtain ⟨rfl, -⟩ := hv
  have hx := B.exec
  have hb := B.bytes
  have hr := B.returns
  have hts := fun (w : Cond) (h : w ∈ gw) => atoms_spec (ws := wsF_isMinus) B.pre w (List.mem_cons_of_mem _ h)
  have hown : s.vm.findClass RF = some m.cls := findClass_of_methodNamed B.named
  have hlocks := B.notSynchronized
  have hS : va_S (fun _ => False) s.heap s.heap [] := va_S.rf
  have hl := lv_entry ([.int a1]) (n := 1) (Nat.le_of_ble_eq_true rfl)
  rw [lg_entry_eq]
  generalize (lg_sl ([.int a1]) ++ List.replicate (1 - (lg_sl ([.int a1])).length) Slot.unset).toArray = ls at hl ⊢
  have hl : lv_has ls 1 [(0, .int a1)] := hl
  refine lv_iload_n hx hb dF_isMinus_0 rfl (lv_at hl 0 rfl) ?_
  refine lv_ldc (v := (1073741824 : Int32)) hx hb hown (hts _ tw_31) dF_isMinus_1 ?_
  refine lv_iand hx hb dF_isMinus_3 ?_
  refine lv_if_eq (tgt := 11) hx hb dF_isMinus_4 (by decide) (fun c_1 => ?_) (fun c_1 => ?_)
  · refine lv_iconst (v := (0 : Int32)) hx hb dF_isMinus_11 (by decide) ?_
    exact W.zret (v := (0 : Int32)) hx hb hr (by decide) (fun tt ht hW => ⟨⟨(0 : Int32), (), rfl, (by unfold f_F_isMinus; rw [if_pos c_1]), trivial⟩, hS.F ht⟩) hS.2.2 dF_isMinus_12
  · refine lv_iconst (v := (1 : Int32)) hx hb dF_isMinus_7 (by decide) ?_
    refine lv_goto (tgt := 12) hx hb dF_isMinus_8 (by decide) ?_
    exact W.zret (v := (1 : Int32)) hx hb hr (by decide) (fun tt ht hW => ⟨⟨(1 : Int32), (), rfl, (by unfold f_F_isMinus; rw [if_neg c_1]), trivial⟩, hS.F ht⟩) hS.2.2 dF_isMinus_12

set_option maxHeartbeats 4000000 in
set_option maxRecDepth 100000 in
theorem c_F_number (l : Launch) (a1 : Int32) : Met l yF_number wsF_number ({ frames := 1, cells := 0, slots := 0, locals := 20 }) (va_Pc [.int a1] (fun _ => True)) (va_Qi (fun (r : Int32) (_ : Unit) => r = f_F_number a1) (fun _ _ => True) (fun _ => False)) 0 0 (fun _ => False) := by
  refine Met.ofW (cc := prog_1_method_14_code) (maxL := 2) (ret := (some .int)) (by decide) rfl ?_
  intro p e s m args below meth c s₁ B hml hv
  obtain ⟨rfl, -⟩ := hv
  have hx := B.exec
  have hb := B.bytes
  have hr := B.returns
  have hts := fun (w : Cond) (h : w ∈ gw) => atoms_spec (ws := wsF_number) B.pre w (List.mem_cons_of_mem _ h)
  have hown : s.vm.findClass RF = some m.cls := findClass_of_methodNamed B.named
  have hlocks := B.notSynchronized
  have hS : va_S (fun _ => False) s.heap s.heap [] := va_S.rf
  have hl := lv_entry ([.int a1]) (n := 2) (Nat.le_of_ble_eq_true rfl)
  rw [lg_entry_eq]
  generalize (lg_sl ([.int a1]) ++ List.replicate (2 - (lg_sl ([.int a1])).length) Slot.unset).toArray = ls at hl ⊢
  have hl : lv_has ls 2 [(0, .int a1)] := hl
  refine lv_iload_n hx hb dF_number_0 rfl (lv_at hl 0 rfl) ?_
  refine lv_ldc (v := (1073741823 : Int32)) hx hb hown (hts _ tw_29) dF_number_1 ?_
  refine lv_iand hx hb dF_number_3 ?_
  refine lv_topi (fun x_1 ex_1 => ?_)
  refine lv_istore_n (lv' := [(1, .int x_1), (0, .int a1)]) hx hb dF_number_4 rfl hl (by decide) rfl (fun ls hl => ?_)
  refine lv_iload_n hx hb dF_number_5 rfl (lv_at hl 1 rfl) ?_
  refine kk_call0 (va_runS (As := [.int a1]) (rest := []) ⟨hx, hb, hml, hown, hts⟩ (c_F_isMinus l a1) (va_cwS 1 hts (gS tw_41 tw_42 tw_1 tw_43) rfl rfl rfl (by decide +kernel) ⟨Nat.le_of_ble_eq_true rfl, Nat.le_of_ble_eq_true rfl⟩) ⟨fun _ _ _ _ q => q, fun _ _ _ => ⟨rfl, trivial⟩⟩ rfl rfl hl.1 rfl (lv_room (Nat.le_of_ble_eq_true rfl)) dF_number_6 ⟨Nat.le_of_ble_eq_true rfl, Nat.le_of_ble_eq_true rfl⟩) hS (fun H locs hS => ?_)
  refine lv_if_eq (tgt := 17) hx hb dF_number_9 (by decide) (fun c_2 => ?_) (fun c_2 => ?_)
  · refine lv_iload_n hx hb dF_number_17 rfl (lv_at hl 0 rfl) ?_
    exact W.iret (v := x_1) hx hb hr (fun tt ht hW => ⟨⟨x_1, (), rfl, (by subst ex_1; unfold f_F_number; rw [if_pos c_2]), trivial⟩, hS.F ht⟩) hS.2.2 dF_number_18
  · refine lv_iload_n hx hb dF_number_12 rfl (lv_at hl 0 rfl) ?_
    refine lv_ineg hx hb dF_number_13 ?_
    refine lv_goto (tgt := 18) hx hb dF_number_14 (by decide) ?_
    exact W.iret (v := (-x_1)) hx hb hr (fun tt ht hW => ⟨⟨(-x_1), (), rfl, (by subst ex_1; unfold f_F_number; rw [if_neg c_2]), trivial⟩, hS.F ht⟩) hS.2.2 dF_number_18

set_option maxHeartbeats 4000000 in
set_option maxRecDepth 100000 in
theorem c_F_firstByte (l : Launch) (a1 : Int32) : Met l yF_firstByte wsF_firstByte ({ frames := 0, cells := 0, slots := 0, locals := 0 }) (va_Pc [.int a1] (fun _ => True)) (va_Qi (fun (r : Int32) (_ : Unit) => r = f_F_firstByte a1) (fun _ _ => True) (fun _ => False)) 0 0 (fun _ => False) := by
  refine Met.ofW (cc := prog_1_method_15_code) (maxL := 1) (ret := (some .int)) (by decide) rfl ?_
  intro p e s m args below meth c s₁ B hml hv
  obtain ⟨rfl, -⟩ := hv
  have hx := B.exec
  have hb := B.bytes
  have hr := B.returns
  have hts := fun (w : Cond) (h : w ∈ gw) => atoms_spec (ws := wsF_firstByte) B.pre w (List.mem_cons_of_mem _ h)
  have hown : s.vm.findClass RF = some m.cls := findClass_of_methodNamed B.named
  have hlocks := B.notSynchronized
  have hS : va_S (fun _ => False) s.heap s.heap [] := va_S.rf
  have hl := lv_entry ([.int a1]) (n := 1) (Nat.le_of_ble_eq_true rfl)
  rw [lg_entry_eq]
  generalize (lg_sl ([.int a1]) ++ List.replicate (1 - (lg_sl ([.int a1])).length) Slot.unset).toArray = ls at hl ⊢
  have hl : lv_has ls 1 [(0, .int a1)] := hl
  refine lv_iload_n hx hb dF_firstByte_0 rfl (lv_at hl 0 rfl) ?_
  refine lv_iconst (v := (3 : Int32)) hx hb dF_firstByte_1 (by decide) ?_
  refine lv_ishr hx hb dF_firstByte_2 ?_
  exact W.iret (v := (a1 >>> ((3 : Int32) &&& 31))) hx hb hr (fun tt ht hW => ⟨⟨(a1 >>> ((3 : Int32) &&& 31)), (), rfl, (by rfl), trivial⟩, hS.F ht⟩) hS.2.2 dF_firstByte_3

set_option maxHeartbeats 4000000 in
set_option maxRecDepth 100000 in
theorem c_F_lastByte (l : Launch) (a1 : Int32) : Met l yF_lastByte wsF_lastByte ({ frames := 0, cells := 0, slots := 0, locals := 0 }) (va_Pc [.int a1] (fun _ => True)) (va_Qi (fun (r : Int32) (_ : Unit) => r = f_F_lastByte a1) (fun _ _ => True) (fun _ => False)) 0 0 (fun _ => False) := by
  refine Met.ofW (cc := prog_1_method_16_code) (maxL := 1) (ret := (some .int)) (by decide) rfl ?_
  intro p e s m args below meth c s₁ B hml hv
  obtain ⟨rfl, -⟩ := hv
  have hx := B.exec
  have hb := B.bytes
  have hr := B.returns
  have hts := fun (w : Cond) (h : w ∈ gw) => atoms_spec (ws := wsF_lastByte) B.pre w (List.mem_cons_of_mem _ h)
  have hown : s.vm.findClass RF = some m.cls := findClass_of_methodNamed B.named
  have hlocks := B.notSynchronized
  have hS : va_S (fun _ => False) s.heap s.heap [] := va_S.rf
  have hl := lv_entry ([.int a1]) (n := 1) (Nat.le_of_ble_eq_true rfl)
  rw [lg_entry_eq]
  generalize (lg_sl ([.int a1]) ++ List.replicate (1 - (lg_sl ([.int a1])).length) Slot.unset).toArray = ls at hl ⊢
  have hl : lv_has ls 1 [(0, .int a1)] := hl
  refine lv_iload_n hx hb dF_lastByte_0 rfl (lv_at hl 0 rfl) ?_
  refine lv_bipush (v := (7 : Int32)) hx hb dF_lastByte_1 (by decide) ?_
  refine lv_iand hx hb dF_lastByte_3 ?_
  exact W.iret (v := (a1 &&& (7 : Int32))) hx hb hr (fun tt ht hW => ⟨⟨(a1 &&& (7 : Int32)), (), rfl, (by rfl), trivial⟩, hS.F ht⟩) hS.2.2 dF_lastByte_4

set_option maxHeartbeats 4000000 in
set_option maxRecDepth 100000 in
theorem c_F_bitsRightOf (l : Launch) (a1 : Int32) : Met l yF_bitsRightOf wsF_bitsRightOf ({ frames := 0, cells := 0, slots := 0, locals := 0 }) (va_Pc [.int a1] (fun _ => True)) (va_Qi (fun (r : Int32) (_ : Unit) => r = f_F_bitsRightOf a1) (fun _ _ => True) (fun _ => False)) 0 0 (fun _ => False) := by
  refine Met.ofW (cc := prog_1_method_17_code) (maxL := 1) (ret := (some .int)) (by decide) rfl ?_
  intro p e s m args below meth c s₁ B hml hv
  obtain ⟨rfl, -⟩ := hv
  have hx := B.exec
  have hb := B.bytes
  have hr := B.returns
  have hts := fun (w : Cond) (h : w ∈ gw) => atoms_spec (ws := wsF_bitsRightOf) B.pre w (List.mem_cons_of_mem _ h)
  have hown : s.vm.findClass RF = some m.cls := findClass_of_methodNamed B.named
  have hlocks := B.notSynchronized
  have hS : va_S (fun _ => False) s.heap s.heap [] := va_S.rf
  have hl := lv_entry ([.int a1]) (n := 1) (Nat.le_of_ble_eq_true rfl)
  rw [lg_entry_eq]
  generalize (lg_sl ([.int a1]) ++ List.replicate (1 - (lg_sl ([.int a1])).length) Slot.unset).toArray = ls at hl ⊢
  have hl : lv_has ls 1 [(0, .int a1)] := hl
  refine lv_bipush (v := (6 : Int32)) hx hb dF_bitsRightOf_0 (by decide) ?_
  refine lv_iconst (v := (5 : Int32)) hx hb dF_bitsRightOf_2 (by decide) ?_
  refine lv_iload_n hx hb dF_bitsRightOf_3 rfl (lv_at hl 0 rfl) ?_
  refine lv_isub hx hb dF_bitsRightOf_4 ?_
  refine lv_imul hx hb dF_bitsRightOf_5 ?_
  exact W.iret (v := ((6 : Int32) * ((5 : Int32) - a1))) hx hb hr (fun tt ht hW => ⟨⟨((6 : Int32) * ((5 : Int32) - a1)), (), rfl, (by rfl), trivial⟩, hS.F ht⟩) hS.2.2 dF_bitsRightOf_6

set_option maxHeartbeats 4000000 in
set_option maxRecDepth 100000 in
theorem c_F_rightMask (l : Launch) (a1 : Int32) : Met l yF_rightMask wsF_rightMask ({ frames := 1, cells := 0, slots := 0, locals := 20 }) (va_Pc [.int a1] (fun _ => True)) (va_Qi (fun (r : Int32) (_ : Unit) => r = f_F_rightMask a1) (fun _ _ => True) (fun _ => False)) 0 0 (fun _ => False) := by
  refine Met.ofW (cc := prog_1_method_18_code) (maxL := 2) (ret := (some .int)) (by decide) rfl ?_
  intro p e s m args below meth c s₁ B hml hv
  obtain ⟨rfl, -⟩ := hv
  have hx := B.exec
  have hb := B.bytes
  have hr := B.returns
  have hts := fun (w : Cond) (h : w ∈ gw) => atoms_spec (ws := wsF_rightMask) B.pre w (List.mem_cons_of_mem _ h)
  have hown : s.vm.findClass RF = some m.cls := findClass_of_methodNamed B.named
  have hlocks := B.notSynchronized
  have hS : va_S (fun _ => False) s.heap s.heap [] := va_S.rf
  have hl := lv_entry ([.int a1]) (n := 2) (Nat.le_of_ble_eq_true rfl)
  rw [lg_entry_eq]
  generalize (lg_sl ([.int a1]) ++ List.replicate (2 - (lg_sl ([.int a1])).length) Slot.unset).toArray = ls at hl ⊢
  have hl : lv_has ls 2 [(0, .int a1)] := hl
  refine lv_iload_n hx hb dF_rightMask_0 rfl (lv_at hl 0 rfl) ?_
  refine kk_call0 (va_runS (As := [.int a1]) (rest := []) ⟨hx, hb, hml, hown, hts⟩ (c_F_lastByte l a1) (va_cwS 1 hts (gS tw_62 tw_63 tw_1 tw_64) rfl rfl rfl (by decide +kernel) ⟨Nat.le_of_ble_eq_true rfl, Nat.le_of_ble_eq_true rfl⟩) ⟨fun _ _ _ _ q => q, fun _ _ _ => ⟨rfl, trivial⟩⟩ rfl rfl hl.1 rfl (lv_room (Nat.le_of_ble_eq_true rfl)) dF_rightMask_1 ⟨Nat.le_of_ble_eq_true rfl, Nat.le_of_ble_eq_true rfl⟩) hS (fun H locs hS => ?_)
  refine lv_iload_n hx hb dF_rightMask_4 rfl (lv_at hl 0 rfl) ?_
  refine kk_call0 (va_runS (As := [.int a1]) (rest := [.int (f_F_lastByte a1)]) ⟨hx, hb, hml, hown, hts⟩ (c_F_firstByte l a1) (va_cwS 1 hts (gS tw_59 tw_60 tw_1 tw_61) rfl rfl rfl (by decide +kernel) ⟨Nat.le_of_ble_eq_true rfl, Nat.le_of_ble_eq_true rfl⟩) ⟨fun _ _ _ _ q => q, fun _ _ _ => ⟨rfl, trivial⟩⟩ rfl rfl hl.1 rfl (lv_room (Nat.le_of_ble_eq_true rfl)) dF_rightMask_5 ⟨Nat.le_of_ble_eq_true rfl, Nat.le_of_ble_eq_true rfl⟩) hS (fun H locs hS => ?_)
  refine lv_iconst (v := (1 : Int32)) hx hb dF_rightMask_8 (by decide) ?_
  refine va_mmax hx hb (hml.trans hl.1.symm) hown (hts _ tw_71) (hts _ tw_72) (hts _ tw_3) (hts _ tw_mmax) (Nat.le_of_ble_eq_true rfl) (Nat.le_of_ble_eq_true rfl) (Nat.le_of_ble_eq_true rfl) (Nat.le_of_ble_eq_true rfl) dF_rightMask_9 ?_
  refine lv_isub hx hb dF_rightMask_12 ?_
  refine lv_iconst (v := (1 : Int32)) hx hb dF_rightMask_13 (by decide) ?_
  refine lv_iadd hx hb dF_rightMask_14 ?_
  refine lv_topi (fun x_1 ex_1 => ?_)
  refine lv_istore_n (lv' := [(1, .int x_1), (0, .int a1)]) hx hb dF_rightMask_15 rfl hl (by decide) rfl (fun ls hl => ?_)
  refine lv_iconst (v := (1 : Int32)) hx hb dF_rightMask_16 (by decide) ?_
  refine lv_bipush (v := (6 : Int32)) hx hb dF_rightMask_17 (by decide) ?_
  refine lv_iload_n hx hb dF_rightMask_19 rfl (lv_at hl 0 rfl) ?_
  refine lv_imul hx hb dF_rightMask_20 ?_
  refine lv_ishl hx hb dF_rightMask_21 ?_
  refine lv_iconst (v := (1 : Int32)) hx hb dF_rightMask_22 (by decide) ?_
  refine lv_isub hx hb dF_rightMask_23 ?_
  exact W.iret (v := (((1 : Int32) <<< (((6 : Int32) * x_1) &&& 31)) - (1 : Int32))) hx hb hr (fun tt ht hW => ⟨⟨(((1 : Int32) <<< (((6 : Int32) * x_1) &&& 31)) - (1 : Int32)), (), rfl, (by subst ex_1; rfl), trivial⟩, hS.F ht⟩) hS.2.2 dF_rightMask_24

set_option maxHeartbeats 4000000 in
set_option maxRecDepth 100000 in
theorem c_F_signMask (l : Launch) (a1 : Int32) : Met l yF_signMask wsF_signMask ({ frames := 1, cells := 0, slots := 0, locals := 20 }) (va_Pc [.int a1] (fun _ => True)) (va_Qi (fun (r : Int32) (_ : Unit) => r = f_F_signMask a1) (fun _ _ => True) (fun _ => False)) 0 0 (fun _ => False) := by
  refine Met.ofW (cc := prog_1_method_19_code) (maxL := 1) (ret := (some .int)) (by decide) rfl ?_
  intro p e s m args below meth c s₁ B hml hv
  obtain ⟨rfl, -⟩ := hv
  have hx := B.exec
  have hb := B.bytes
  have hr := B.returns
  have hts := fun (w : Cond) (h : w ∈ gw) => atoms_spec (ws := wsF_signMask) B.pre w (List.mem_cons_of_mem _ h)
  have hown : s.vm.findClass RF = some m.cls := findClass_of_methodNamed B.named
  have hlocks := B.notSynchronized
  have hS : va_S (fun _ => False) s.heap s.heap [] := va_S.rf
  have hl := lv_entry ([.int a1]) (n := 1) (Nat.le_of_ble_eq_true rfl)
  rw [lg_entry_eq]
  generalize (lg_sl ([.int a1]) ++ List.replicate (1 - (lg_sl ([.int a1])).length) Slot.unset).toArray = ls at hl ⊢
  have hl : lv_has ls 1 [(0, .int a1)] := hl
  refine lv_iload_n hx hb dF_signMask_0 rfl (lv_at hl 0 rfl) ?_
  refine kk_call0 (va_runS (As := [.int a1]) (rest := []) ⟨hx, hb, hml, hown, hts⟩ (c_F_firstByte l a1) (va_cwS 1 hts (gS tw_59 tw_60 tw_1 tw_61) rfl rfl rfl (by decide +kernel) ⟨Nat.le_of_ble_eq_true rfl, Nat.le_of_ble_eq_true rfl⟩) ⟨fun _ _ _ _ q => q, fun _ _ _ => ⟨rfl, trivial⟩⟩ rfl rfl hl.1 rfl (lv_room (Nat.le_of_ble_eq_true rfl)) dF_signMask_1 ⟨Nat.le_of_ble_eq_true rfl, Nat.le_of_ble_eq_true rfl⟩) hS (fun H locs hS => ?_)
  refine lv_if_ne (tgt := 12) hx hb dF_signMask_4 (by decide) (fun c_1 => ?_) (fun c_1 => ?_)
  · refine lv_iconst (v := (0 : Int32)) hx hb dF_signMask_12 (by decide) ?_
    exact W.iret (v := (0 : Int32)) hx hb hr (fun tt ht hW => ⟨⟨(0 : Int32), (), rfl, (by unfold f_F_signMask; rw [if_neg c_1]), trivial⟩, hS.F ht⟩) hS.2.2 dF_signMask_13
  · refine lv_ldc (v := (1073741824 : Int32)) hx hb hown (hts _ tw_31) dF_signMask_7 ?_
    refine lv_goto (tgt := 13) hx hb dF_signMask_9 (by decide) ?_
    exact W.iret (v := (1073741824 : Int32)) hx hb hr (fun tt ht hW => ⟨⟨(1073741824 : Int32), (), rfl, (by unfold f_F_signMask; rw [if_pos c_1]), trivial⟩, hS.F ht⟩) hS.2.2 dF_signMask_13

set_option maxHeartbeats 4000000 in
set_option maxRecDepth 100000 in
theorem c_F_fieldOf (l : Launch) (a1 a2 : Int32) : Met l yF_fieldOf wsF_fieldOf ({ frames := 2, cells := 0, slots := 0, locals := 41 }) (va_Pc [.int a1, .int a2] (fun _ => True)) (va_Qi (fun (r : Int32) (_ : Unit) => r = f_F_fieldOf a1 a2) (fun _ _ => True) (fun _ => False)) 0 0 (fun _ => False) := by
  refine Met.ofW (cc := prog_1_method_20_code) (maxL := 3) (ret := (some .int)) (by decide) rfl ?_
  intro p e s m args below meth c s₁ B hml hv
  obtain ⟨rfl, -⟩ := hv
  have hx := B.exec
  have hb := B.bytes
  have hr := B.returns
  have hts := fun (w : Cond) (h : w ∈ gw) => atoms_spec (ws := wsF_fieldOf) B.pre w (List.mem_cons_of_mem _ h)
  have hown : s.vm.findClass RF = some m.cls := findClass_of_methodNamed B.named
  have hlocks := B.notSynchronized
  have hS : va_S (fun _ => False) s.heap s.heap [] := va_S.rf
  have hl := lv_entry ([.int a1, .int a2]) (n := 3) (Nat.le_of_ble_eq_true rfl)
  rw [lg_entry_eq]
  generalize (lg_sl ([.int a1, .int a2]) ++ List.replicate (3 - (lg_sl ([.int a1, .int a2])).length) Slot.unset).toArray = ls at hl ⊢
  have hl : lv_has ls 3 [(0, .int a1), (1, .int a2)] := hl
  refine lv_iload_n hx hb dF_fieldOf_0 rfl (lv_at hl 0 rfl) ?_
  refine lv_iload_n hx hb dF_fieldOf_1 rfl (lv_at hl 1 rfl) ?_
  refine kk_call0 (va_runS (As := [.int a2]) (rest := [.int a1]) ⟨hx, hb, hml, hown, hts⟩ (c_F_lastByte l a2) (va_cwS 1 hts (gS tw_62 tw_63 tw_1 tw_64) rfl rfl rfl (by decide +kernel) ⟨Nat.le_of_ble_eq_true rfl, Nat.le_of_ble_eq_true rfl⟩) ⟨fun _ _ _ _ q => q, fun _ _ _ => ⟨rfl, trivial⟩⟩ rfl rfl hl.1 rfl (lv_room (Nat.le_of_ble_eq_true rfl)) dF_fieldOf_2 ⟨Nat.le_of_ble_eq_true rfl, Nat.le_of_ble_eq_true rfl⟩) hS (fun H locs hS => ?_)
  refine kk_call0 (va_runS (As := [.int (f_F_lastByte a2)]) (rest := [.int a1]) ⟨hx, hb, hml, hown, hts⟩ (c_F_bitsRightOf l (f_F_lastByte a2)) (va_cwS 1 hts (gS tw_48 tw_49 tw_1 tw_50) rfl rfl rfl (by decide +kernel) ⟨Nat.le_of_ble_eq_true rfl, Nat.le_of_ble_eq_true rfl⟩) ⟨fun _ _ _ _ q => q, fun _ _ _ => ⟨rfl, trivial⟩⟩ rfl rfl hl.1 rfl (lv_room (Nat.le_of_ble_eq_true rfl)) dF_fieldOf_5 ⟨Nat.le_of_ble_eq_true rfl, Nat.le_of_ble_eq_true rfl⟩) hS (fun H locs hS => ?_)
  refine lv_ishr hx hb dF_fieldOf_8 ?_
  refine lv_iload_n hx hb dF_fieldOf_9 rfl (lv_at hl 1 rfl) ?_
  refine kk_call0 (va_runS (As := [.int a2]) (rest := [.int (a1 >>> ((f_F_bitsRightOf (f_F_lastByte a2)) &&& 31))]) ⟨hx, hb, hml, hown, hts⟩ (c_F_rightMask l a2) (va_cwS 1 hts (gS tw_68 tw_69 tw_1 tw_70) rfl rfl rfl (by decide +kernel) ⟨Nat.le_of_ble_eq_true rfl, Nat.le_of_ble_eq_true rfl⟩) ⟨fun _ _ _ _ q => q, fun _ _ _ => ⟨rfl, trivial⟩⟩ rfl rfl hl.1 rfl (lv_room (Nat.le_of_ble_eq_true rfl)) dF_fieldOf_10 ⟨Nat.le_of_ble_eq_true rfl, Nat.le_of_ble_eq_true rfl⟩) hS (fun H locs hS => ?_)
  refine lv_iand hx hb dF_fieldOf_13 ?_
  refine lv_topi (fun x_1 ex_1 => ?_)
  refine lv_istore_n (lv' := [(2, .int x_1), (0, .int a1), (1, .int a2)]) hx hb dF_fieldOf_14 rfl hl (by decide) rfl (fun ls hl => ?_)
  refine lv_iload_n hx hb dF_fieldOf_15 rfl (lv_at hl 0 rfl) ?_
  refine lv_iload_n hx hb dF_fieldOf_16 rfl (lv_at hl 1 rfl) ?_
  refine lv_iload_n hx hb dF_fieldOf_17 rfl (lv_at hl 2 rfl) ?_
  refine kk_call0 (va_runS (As := [.int a2]) (rest := [.int a1, .int x_1]) ⟨hx, hb, hml, hown, hts⟩ (c_F_signMask l a2) (va_cwS 1 hts (gS tw_74 tw_75 tw_1 tw_76) rfl rfl rfl (by decide +kernel) ⟨Nat.le_of_ble_eq_true rfl, Nat.le_of_ble_eq_true rfl⟩) ⟨fun _ _ _ _ q => q, fun _ _ _ => ⟨rfl, trivial⟩⟩ rfl rfl hl.1 rfl (lv_room (Nat.le_of_ble_eq_true rfl)) dF_fieldOf_18 ⟨Nat.le_of_ble_eq_true rfl, Nat.le_of_ble_eq_true rfl⟩) hS (fun H locs hS => ?_)
  refine lv_iand hx hb dF_fieldOf_21 ?_
  refine lv_ior hx hb dF_fieldOf_22 ?_
  exact W.iret (v := (x_1 ||| (a1 &&& (f_F_signMask a2)))) hx hb hr (fun tt ht hW => ⟨⟨(x_1 ||| (a1 &&& (f_F_signMask a2))), (), rfl, (by subst ex_1; rfl), trivial⟩, hS.F ht⟩) hS.2.2 dF_fieldOf_23

set_option maxHeartbeats 4000000 in
set_option maxRecDepth 100000 in
theorem c_F_greatLetter (l : Launch) (a1 : Int32) : Met l yF_greatLetter wsF_greatLetter ({ frames := 0, cells := 0, slots := 0, locals := 0 }) (va_Pc [.int a1] (fun _ => True)) (va_Qi (fun (r : Int32) (_ : Unit) => r = f_F_greatLetter a1) (fun _ _ => True) (fun _ => False)) 0 0 (fun _ => False) := by
  refine Met.ofW (cc := prog_1_method_21_code) (maxL := 1) (ret := (some .int)) (by decide) rfl ?_
  intro p e s m args below meth c s₁ B hml hv
  obtain ⟨rfl, -⟩ := hv
  have hx := B.exec
  have hb := B.bytes
  have hr := B.returns
  have hts := fun (w : Cond) (h : w ∈ gw) => atoms_spec (ws := wsF_greatLetter) B.pre w (List.mem_cons_of_mem _ h)
  have hown : s.vm.findClass RF = some m.cls := findClass_of_methodNamed B.named
  have hlocks := B.notSynchronized
  have hS : va_S (fun _ => False) s.heap s.heap [] := va_S.rf
  have hl := lv_entry ([.int a1]) (n := 1) (Nat.le_of_ble_eq_true rfl)
  rw [lg_entry_eq]
  generalize (lg_sl ([.int a1]) ++ List.replicate (1 - (lg_sl ([.int a1])).length) Slot.unset).toArray = ls at hl ⊢
  have hl : lv_has ls 1 [(0, .int a1)] := hl
  refine lv_iload_n hx hb dF_greatLetter_0 rfl (lv_at hl 0 rfl) ?_
  refine lv_bipush (v := (97 : Int32)) hx hb dF_greatLetter_1 (by decide) ?_
  refine lv_icmp_lt (tgt := 22) hx hb dF_greatLetter_3 (by decide) (fun c_1 => ?_) (fun c_1 => ?_)
  · refine lv_iload_n hx hb dF_greatLetter_22 rfl (lv_at hl 0 rfl) ?_
    exact W.iret (v := a1) hx hb hr (fun tt ht hW => ⟨⟨a1, (), rfl, (by unfold f_F_greatLetter; rw [if_pos c_1]), trivial⟩, hS.F ht⟩) hS.2.2 dF_greatLetter_23
  · refine lv_iload_n hx hb dF_greatLetter_6 rfl (lv_at hl 0 rfl) ?_
    refine lv_bipush (v := (122 : Int32)) hx hb dF_greatLetter_7 (by decide) ?_
    refine lv_icmp_gt (tgt := 22) hx hb dF_greatLetter_9 (by decide) (fun c_2 => ?_) (fun c_2 => ?_)
    · refine lv_iload_n hx hb dF_greatLetter_22 rfl (lv_at hl 0 rfl) ?_
      exact W.iret (v := a1) hx hb hr (fun tt ht hW => ⟨⟨a1, (), rfl, (by unfold f_F_greatLetter; rw [if_neg c_1, if_pos c_2]), trivial⟩, hS.F ht⟩) hS.2.2 dF_greatLetter_23
    · refine lv_iload_n hx hb dF_greatLetter_12 rfl (lv_at hl 0 rfl) ?_
      refine lv_bipush (v := (97 : Int32)) hx hb dF_greatLetter_13 (by decide) ?_
      refine lv_isub hx hb dF_greatLetter_15 ?_
      refine lv_bipush (v := (65 : Int32)) hx hb dF_greatLetter_16 (by decide) ?_
      refine lv_iadd hx hb dF_greatLetter_18 ?_
      refine lv_goto (tgt := 23) hx hb dF_greatLetter_19 (by decide) ?_
      exact W.iret (v := ((a1 - (97 : Int32)) + (65 : Int32))) hx hb hr (fun tt ht hW => ⟨⟨((a1 - (97 : Int32)) + (65 : Int32)), (), rfl, (by unfold f_F_greatLetter; rw [if_neg c_1, if_neg c_2]), trivial⟩, hS.F ht⟩) hS.2.2 dF_greatLetter_23

set_option maxHeartbeats 4000000 in
set_option maxRecDepth 100000 in
theorem c_F_isField (l : Launch) (h0 : Nat) (a1 : Int32) : Met l yF_isField wsF_isField ({ frames := 1, cells := 0, slots := 0, locals := 20 }) (va_Pc [.ref h0, .int a1] (fun _ => True)) (va_Qi (fun (r : Int32) (_ : Unit) => r = f_F_isField a1) (fun _ _ => True) (fun _ => False)) 0 0 (fun _ => False) := by
  refine Met.ofW (cc := prog_1_method_9_code) (maxL := 2) (ret := (some .boolean)) (by decide) rfl ?_
  intro p e s m args below meth c s₁ B hml hv
  obtain ⟨rfl, -⟩ := hv
  have hx := B.exec
  have hb := B.bytes
  have hr := B.returns
  have hts := fun (w : Cond) (h : w ∈ gw) => atoms_spec (ws := wsF_isField) B.pre w (List.mem_cons_of_mem _ h)
  have hown : s.vm.findClass RF = some m.cls := findClass_of_methodNamed B.named
  have hlocks := B.notSynchronized
  have hS : va_S (fun _ => False) s.heap s.heap [] := va_S.rf
  have hl := lv_entry ([.ref h0, .int a1]) (n := 2) (Nat.le_of_ble_eq_true rfl)
  rw [lg_entry_eq]
  generalize (lg_sl ([.ref h0, .int a1]) ++ List.replicate (2 - (lg_sl ([.ref h0, .int a1])).length) Slot.unset).toArray = ls at hl ⊢
  have hl : lv_has ls 2 [(0, .ref h0), (1, .int a1)] := hl
  refine lv_iload_n hx hb dF_isField_0 rfl (lv_at hl 1 rfl) ?_
  refine lv_if_lt (tgt := 27) hx hb dF_isField_1 (by decide) (fun c_1 => ?_) (fun c_1 => ?_)
  · refine lv_iconst (v := (0 : Int32)) hx hb dF_isField_27 (by decide) ?_
    exact W.zret (v := (0 : Int32)) hx hb hr (by decide) (fun tt ht hW => ⟨⟨(0 : Int32), (), rfl, (by unfold f_F_isField; rw [if_pos c_1]), trivial⟩, hS.F ht⟩) hS.2.2 dF_isField_28
  · refine lv_iload_n hx hb dF_isField_4 rfl (lv_at hl 1 rfl) ?_
    refine kk_call0 (va_runS (As := [.int a1]) (rest := []) ⟨hx, hb, hml, hown, hts⟩ (c_F_firstByte l a1) (va_cwS 1 hts (gS tw_59 tw_60 tw_1 tw_61) rfl rfl rfl (by decide +kernel) ⟨Nat.le_of_ble_eq_true rfl, Nat.le_of_ble_eq_true rfl⟩) ⟨fun _ _ _ _ q => q, fun _ _ _ => ⟨rfl, trivial⟩⟩ rfl rfl hl.1 rfl (lv_room (Nat.le_of_ble_eq_true rfl)) dF_isField_5 ⟨Nat.le_of_ble_eq_true rfl, Nat.le_of_ble_eq_true rfl⟩) hS (fun H locs hS => ?_)
    refine lv_iload_n hx hb dF_isField_8 rfl (lv_at hl 1 rfl) ?_
    refine kk_call0 (va_runS (As := [.int a1]) (rest := [.int (f_F_firstByte a1)]) ⟨hx, hb, hml, hown, hts⟩ (c_F_lastByte l a1) (va_cwS 1 hts (gS tw_62 tw_63 tw_1 tw_64) rfl rfl rfl (by decide +kernel) ⟨Nat.le_of_ble_eq_true rfl, Nat.le_of_ble_eq_true rfl⟩) ⟨fun _ _ _ _ q => q, fun _ _ _ => ⟨rfl, trivial⟩⟩ rfl rfl hl.1 rfl (lv_room (Nat.le_of_ble_eq_true rfl)) dF_isField_9 ⟨Nat.le_of_ble_eq_true rfl, Nat.le_of_ble_eq_true rfl⟩) hS (fun H locs hS => ?_)
    refine lv_icmp_gt (tgt := 27) hx hb dF_isField_12 (by decide) (fun c_2 => ?_) (fun c_2 => ?_)
    · refine lv_iconst (v := (0 : Int32)) hx hb dF_isField_27 (by decide) ?_
      exact W.zret (v := (0 : Int32)) hx hb hr (by decide) (fun tt ht hW => ⟨⟨(0 : Int32), (), rfl, (by unfold f_F_isField; rw [if_neg c_1, if_pos c_2]), trivial⟩, hS.F ht⟩) hS.2.2 dF_isField_28
    · refine lv_iload_n hx hb dF_isField_15 rfl (lv_at hl 1 rfl) ?_
      refine kk_call0 (va_runS (As := [.int a1]) (rest := []) ⟨hx, hb, hml, hown, hts⟩ (c_F_lastByte l a1) (va_cwS 1 hts (gS tw_62 tw_63 tw_1 tw_64) rfl rfl rfl (by decide +kernel) ⟨Nat.le_of_ble_eq_true rfl, Nat.le_of_ble_eq_true rfl⟩) ⟨fun _ _ _ _ q => q, fun _ _ _ => ⟨rfl, trivial⟩⟩ rfl rfl hl.1 rfl (lv_room (Nat.le_of_ble_eq_true rfl)) dF_isField_16 ⟨Nat.le_of_ble_eq_true rfl, Nat.le_of_ble_eq_true rfl⟩) hS (fun H locs hS => ?_)
      refine lv_iconst (v := (5 : Int32)) hx hb dF_isField_19 (by decide) ?_
      refine lv_icmp_gt (tgt := 27) hx hb dF_isField_20 (by decide) (fun c_3 => ?_) (fun c_3 => ?_)
      · refine lv_iconst (v := (0 : Int32)) hx hb dF_isField_27 (by decide) ?_
        exact W.zret (v := (0 : Int32)) hx hb hr (by decide) (fun tt ht hW => ⟨⟨(0 : Int32), (), rfl, (by unfold f_F_isField; rw [if_neg c_1, if_neg c_2, if_pos c_3]), trivial⟩, hS.F ht⟩) hS.2.2 dF_isField_28
      · refine lv_iconst (v := (1 : Int32)) hx hb dF_isField_23 (by decide) ?_
        refine lv_goto (tgt := 28) hx hb dF_isField_24 (by decide) ?_
        exact W.zret (v := (1 : Int32)) hx hb hr (by decide) (fun tt ht hW => ⟨⟨(1 : Int32), (), rfl, (by unfold f_F_isField; rw [if_neg c_1, if_neg c_2, if_neg c_3]), trivial⟩, hS.F ht⟩) hS.2.2 dF_isField_28
