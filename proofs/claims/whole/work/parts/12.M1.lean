set_option maxHeartbeats 4000000 in
set_option maxRecDepth 100000 in
theorem c_M_isRegister (l : Launch) (a1 : Int32) : Met l yM_isRegister wsM_isRegister ({ frames := 0, cells := 0, slots := 0, locals := 0 }) (va_Pc [.int a1] (fun _ => True)) (va_Qi (fun (r : Int32) (_ : Unit) => r = f_M_isRegister a1) (fun _ _ => True) (fun _ => False)) 0 0 (fun _ => False) := by
  refine Met.ofW (cc := prog_3_method_3_code) (maxL := 1) (ret := (some .boolean)) (by decide) rfl ?_
  intro p e s m args below meth c s₁ B hml hv
  obtain ⟨rfl, -⟩ := hv
  have hx := B.exec
  have hb := B.bytes
  have hr := B.returns
  have hts := fun (w : Cond) (h : w ∈ gw) => atoms_spec (ws := wsM_isRegister) B.pre w (List.mem_cons_of_mem _ h)
  have hown : s.vm.findClass RM = some m.cls := findClass_of_methodNamed B.named
  have hlocks := B.notSynchronized
  have hS : va_S (fun _ => False) s.heap s.heap [] := va_S.rf
  have hl := lv_entry ([.int a1]) (n := 1) (Nat.le_of_ble_eq_true rfl)
  rw [lg_entry_eq]
  generalize (lg_sl ([.int a1]) ++ List.replicate (1 - (lg_sl ([.int a1])).length) Slot.unset).toArray = ls at hl ⊢
  have hl : lv_has ls 1 [(0, .int a1)] := hl
  refine lv_iload_n hx hb dM_isRegister_0 rfl (lv_at hl 0 rfl) ?_
  refine lv_if_lt (tgt := 14) hx hb dM_isRegister_1 (by decide) (fun c_1 => ?_) (fun c_1 => ?_)
  · refine lv_iconst (v := (0 : Int32)) hx hb dM_isRegister_14 (by decide) ?_
    exact W.zret (v := (0 : Int32)) hx hb hr (by decide) (fun tt ht hW => ⟨⟨(0 : Int32), (), rfl, (by unfold f_M_isRegister; rw [if_pos c_1]), trivial⟩, hS.F ht⟩) hS.2.2 dM_isRegister_15
  · refine lv_iload_n hx hb dM_isRegister_4 rfl (lv_at hl 0 rfl) ?_
    refine lv_bipush (v := (16 : Int32)) hx hb dM_isRegister_5 (by decide) ?_
    refine lv_icmp_ge (tgt := 14) hx hb dM_isRegister_7 (by decide) (fun c_2 => ?_) (fun c_2 => ?_)
    · refine lv_iconst (v := (0 : Int32)) hx hb dM_isRegister_14 (by decide) ?_
      exact W.zret (v := (0 : Int32)) hx hb hr (by decide) (fun tt ht hW => ⟨⟨(0 : Int32), (), rfl, (by unfold f_M_isRegister; rw [if_neg c_1, if_pos c_2]), trivial⟩, hS.F ht⟩) hS.2.2 dM_isRegister_15
    · refine lv_iconst (v := (1 : Int32)) hx hb dM_isRegister_10 (by decide) ?_
      refine lv_goto (tgt := 15) hx hb dM_isRegister_11 (by decide) ?_
      exact W.zret (v := (1 : Int32)) hx hb hr (by decide) (fun tt ht hW => ⟨⟨(1 : Int32), (), rfl, (by unfold f_M_isRegister; rw [if_neg c_1, if_neg c_2]), trivial⟩, hS.F ht⟩) hS.2.2 dM_isRegister_15

set_option maxHeartbeats 4000000 in
set_option maxRecDepth 100000 in
theorem c_M_is (l : Launch) (a1 : Int32) : Met l yM_is wsM_is ({ frames := 0, cells := 0, slots := 0, locals := 0 }) (va_Pc [.int a1] (fun _ => True)) (va_Qi (fun (r : Int32) (_ : Unit) => r = f_M_is a1) (fun _ _ => True) (fun _ => False)) 0 0 (fun _ => False) := by
  refine Met.ofW (cc := prog_3_method_4_code) (maxL := 1) (ret := (some .boolean)) (by decide) rfl ?_
  intro p e s m args below meth c s₁ B hml hv
  obtain ⟨rfl, -⟩ := hv
  have hx := B.exec
  have hb := B.bytes
  have hr := B.returns
  have hts := fun (w : Cond) (h : w ∈ gw) => atoms_spec (ws := wsM_is) B.pre w (List.mem_cons_of_mem _ h)
  have hown : s.vm.findClass RM = some m.cls := findClass_of_methodNamed B.named
  have hlocks := B.notSynchronized
  have hS : va_S (fun _ => False) s.heap s.heap [] := va_S.rf
  have hl := lv_entry ([.int a1]) (n := 1) (Nat.le_of_ble_eq_true rfl)
  rw [lg_entry_eq]
  generalize (lg_sl ([.int a1]) ++ List.replicate (1 - (lg_sl ([.int a1])).length) Slot.unset).toArray = ls at hl ⊢
  have hl : lv_has ls 1 [(0, .int a1)] := hl
  refine lv_iload_n hx hb dM_is_0 rfl (lv_at hl 0 rfl) ?_
  refine lv_if_lt (tgt := 34) hx hb dM_is_1 (by decide) (fun c_1 => ?_) (fun c_1 => ?_)
  · refine lv_iconst (v := (0 : Int32)) hx hb dM_is_34 (by decide) ?_
    exact W.zret (v := (0 : Int32)) hx hb hr (by decide) (fun tt ht hW => ⟨⟨(0 : Int32), (), rfl, (by unfold f_M_is; rw [if_pos c_1]), trivial⟩, hS.F ht⟩) hS.2.2 dM_is_35
  · refine lv_iload_n hx hb dM_is_4 rfl (lv_at hl 0 rfl) ?_
    refine lv_bipush (v := (48 : Int32)) hx hb dM_is_5 (by decide) ?_
    refine lv_icmp_ge (tgt := 34) hx hb dM_is_7 (by decide) (fun c_2 => ?_) (fun c_2 => ?_)
    · refine lv_iconst (v := (0 : Int32)) hx hb dM_is_34 (by decide) ?_
      exact W.zret (v := (0 : Int32)) hx hb hr (by decide) (fun tt ht hW => ⟨⟨(0 : Int32), (), rfl, (by unfold f_M_is; rw [if_neg c_1, if_pos c_2]), trivial⟩, hS.F ht⟩) hS.2.2 dM_is_35
    · refine lv_iload_n hx hb dM_is_10 rfl (lv_at hl 0 rfl) ?_
      refine lv_bipush (v := (8 : Int32)) hx hb dM_is_11 (by decide) ?_
      refine lv_irem hx hb dM_is_13 (by decide) ?_
      refine lv_bipush (v := (6 : Int32)) hx hb dM_is_14 (by decide) ?_
      refine lv_icmp_ge (tgt := 34) hx hb dM_is_16 (by decide) (fun c_3 => ?_) (fun c_3 => ?_)
      · refine lv_iconst (v := (0 : Int32)) hx hb dM_is_34 (by decide) ?_
        exact W.zret (v := (0 : Int32)) hx hb hr (by decide) (fun tt ht hW => ⟨⟨(0 : Int32), (), rfl, (by unfold f_M_is; rw [if_neg c_1, if_neg c_2, if_pos c_3]), trivial⟩, hS.F ht⟩) hS.2.2 dM_is_35
      · refine lv_iload_n hx hb dM_is_19 rfl (lv_at hl 0 rfl) ?_
        refine lv_bipush (v := (8 : Int32)) hx hb dM_is_20 (by decide) ?_
        refine lv_idiv hx hb dM_is_22 (by decide) ?_
        refine lv_iload_n hx hb dM_is_23 rfl (lv_at hl 0 rfl) ?_
        refine lv_bipush (v := (8 : Int32)) hx hb dM_is_24 (by decide) ?_
        refine lv_irem hx hb dM_is_26 (by decide) ?_
        refine lv_icmp_gt (tgt := 34) hx hb dM_is_27 (by decide) (fun c_4 => ?_) (fun c_4 => ?_)
        · refine lv_iconst (v := (0 : Int32)) hx hb dM_is_34 (by decide) ?_
          exact W.zret (v := (0 : Int32)) hx hb hr (by decide) (fun tt ht hW => ⟨⟨(0 : Int32), (), rfl, (by unfold f_M_is; rw [if_neg c_1, if_neg c_2, if_neg c_3, if_pos c_4]), trivial⟩, hS.F ht⟩) hS.2.2 dM_is_35
        · refine lv_iconst (v := (1 : Int32)) hx hb dM_is_30 (by decide) ?_
          refine lv_goto (tgt := 35) hx hb dM_is_31 (by decide) ?_
          exact W.zret (v := (1 : Int32)) hx hb hr (by decide) (fun tt ht hW => ⟨⟨(1 : Int32), (), rfl, (by unfold f_M_is; rw [if_neg c_1, if_neg c_2, if_neg c_3, if_neg c_4]), trivial⟩, hS.F ht⟩) hS.2.2 dM_is_35

set_option maxHeartbeats 4000000 in
set_option maxRecDepth 100000 in
theorem c_M_first (l : Launch) (a1 : Int32) : Met l yM_first wsM_first ({ frames := 0, cells := 0, slots := 0, locals := 0 }) (va_Pc [.int a1] (fun _ => True)) (va_Qi (fun (r : Int32) (_ : Unit) => r = f_M_first a1) (fun _ _ => True) (fun _ => False)) 0 0 (fun _ => False) := by
  refine Met.ofW (cc := prog_3_method_5_code) (maxL := 1) (ret := (some .int)) (by decide) rfl ?_
  intro p e s m args below meth c s₁ B hml hv
  obtain ⟨rfl, -⟩ := hv
  have hx := B.exec
  have hb := B.bytes
  have hr := B.returns
  have hts := fun (w : Cond) (h : w ∈ gw) => atoms_spec (ws := wsM_first) B.pre w (List.mem_cons_of_mem _ h)
  have hown : s.vm.findClass RM = some m.cls := findClass_of_methodNamed B.named
  have hlocks := B.notSynchronized
  have hS : va_S (fun _ => False) s.heap s.heap [] := va_S.rf
  have hl := lv_entry ([.int a1]) (n := 1) (Nat.le_of_ble_eq_true rfl)
  rw [lg_entry_eq]
  generalize (lg_sl ([.int a1]) ++ List.replicate (1 - (lg_sl ([.int a1])).length) Slot.unset).toArray = ls at hl ⊢
  have hl : lv_has ls 1 [(0, .int a1)] := hl
  refine lv_iload_n hx hb dM_first_0 rfl (lv_at hl 0 rfl) ?_
  refine lv_bipush (v := (8 : Int32)) hx hb dM_first_1 (by decide) ?_
  refine lv_icmp_ge (tgt := 10) hx hb dM_first_3 (by decide) (fun c_1 => ?_) (fun c_1 => ?_)
  · refine lv_iload_n hx hb dM_first_10 rfl (lv_at hl 0 rfl) ?_
    refine lv_bipush (v := (8 : Int32)) hx hb dM_first_11 (by decide) ?_
    refine lv_idiv hx hb dM_first_13 (by decide) ?_
    exact W.iret (v := (a1 / (8 : Int32))) hx hb hr (fun tt ht hW => ⟨⟨(a1 / (8 : Int32)), (), rfl, (by unfold f_M_first; rw [if_pos c_1]), trivial⟩, hS.F ht⟩) hS.2.2 dM_first_14
  · refine lv_iconst (v := (1 : Int32)) hx hb dM_first_6 (by decide) ?_
    refine lv_goto (tgt := 14) hx hb dM_first_7 (by decide) ?_
    exact W.iret (v := (1 : Int32)) hx hb hr (fun tt ht hW => ⟨⟨(1 : Int32), (), rfl, (by unfold f_M_first; rw [if_neg c_1]), trivial⟩, hS.F ht⟩) hS.2.2 dM_first_14

set_option maxHeartbeats 4000000 in
set_option maxRecDepth 100000 in
theorem c_M_may (l : Launch) (h0 : Nat) (a1 a2 a3 : Int32) : Met l yM_may wsM_may ({ frames := 1, cells := 0, slots := 0, locals := 20 }) (va_Pc [.ref h0, .int a1, .int a2, .int a3] (fun _ => True)) (va_Qi (fun (r : Int32) (_ : Unit) => r = f_M_may a1 a2 a3) (fun _ _ => True) (fun _ => False)) 0 0 (fun _ => False) := by
  refine Met.ofW (cc := prog_3_method_10_code) (maxL := 4) (ret := (some .boolean)) (by decide) rfl ?_
  intro p e s m args below meth c s₁ B hml hv
  obtain ⟨rfl, -⟩ := hv
  have hx := B.exec
  have hb := B.bytes
  have hr := B.returns
  have hts := fun (w : Cond) (h : w ∈ gw) => atoms_spec (ws := wsM_may) B.pre w (List.mem_cons_of_mem _ h)
  have hown : s.vm.findClass RM = some m.cls := findClass_of_methodNamed B.named
  have hlocks := B.notSynchronized
  have hS : va_S (fun _ => False) s.heap s.heap [] := va_S.rf
  have hl := lv_entry ([.ref h0, .int a1, .int a2, .int a3]) (n := 4) (Nat.le_of_ble_eq_true rfl)
  rw [lg_entry_eq]
  generalize (lg_sl ([.ref h0, .int a1, .int a2, .int a3]) ++ List.replicate (4 - (lg_sl ([.ref h0, .int a1, .int a2, .int a3])).length) Slot.unset).toArray = ls at hl ⊢
  have hl : lv_has ls 4 [(0, .ref h0), (1, .int a1), (2, .int a2), (3, .int a3)] := hl
  refine lv_iload_n hx hb dM_may_0 rfl (lv_at hl 1 rfl) ?_
  refine kk_call0 (va_runS (As := [.int a1]) (rest := []) ⟨hx, hb, hml, hown, hts⟩ (c_M_isRegister l a1) (va_cwS 1 hts (gS tw_233 tw_234 tw_2 tw_235) rfl rfl rfl (by decide +kernel) ⟨Nat.le_of_ble_eq_true rfl, Nat.le_of_ble_eq_true rfl⟩) ⟨fun _ _ _ _ q => q, fun _ _ _ => ⟨rfl, trivial⟩⟩ rfl rfl hl.1 rfl (lv_room (Nat.le_of_ble_eq_true rfl)) dM_may_1 ⟨Nat.le_of_ble_eq_true rfl, Nat.le_of_ble_eq_true rfl⟩) hS (fun H locs hS => ?_)
  refine lv_if_eq (tgt := 25) hx hb dM_may_4 (by decide) (fun c_1 => ?_) (fun c_1 => ?_)
  · refine lv_iconst (v := (0 : Int32)) hx hb dM_may_25 (by decide) ?_
    exact W.zret (v := (0 : Int32)) hx hb hr (by decide) (fun tt ht hW => ⟨⟨(0 : Int32), (), rfl, (by unfold f_M_may; rw [if_pos c_1]), trivial⟩, hS.F ht⟩) hS.2.2 dM_may_26
  · refine lv_iload_n hx hb dM_may_7 rfl (lv_at hl 2 rfl) ?_
    refine kk_call0 (va_runS (As := [.int a2]) (rest := []) ⟨hx, hb, hml, hown, hts⟩ (c_M_isRegister l a2) (va_cwS 1 hts (gS tw_233 tw_234 tw_2 tw_235) rfl rfl rfl (by decide +kernel) ⟨Nat.le_of_ble_eq_true rfl, Nat.le_of_ble_eq_true rfl⟩) ⟨fun _ _ _ _ q => q, fun _ _ _ => ⟨rfl, trivial⟩⟩ rfl rfl hl.1 rfl (lv_room (Nat.le_of_ble_eq_true rfl)) dM_may_8 ⟨Nat.le_of_ble_eq_true rfl, Nat.le_of_ble_eq_true rfl⟩) hS (fun H locs hS => ?_)
    refine lv_if_eq (tgt := 25) hx hb dM_may_11 (by decide) (fun c_2 => ?_) (fun c_2 => ?_)
    · refine lv_iconst (v := (0 : Int32)) hx hb dM_may_25 (by decide) ?_
      exact W.zret (v := (0 : Int32)) hx hb hr (by decide) (fun tt ht hW => ⟨⟨(0 : Int32), (), rfl, (by unfold f_M_may; rw [if_neg c_1, if_pos c_2]), trivial⟩, hS.F ht⟩) hS.2.2 dM_may_26
    · refine lv_iload_n hx hb dM_may_14 rfl (lv_at hl 3 rfl) ?_
      refine kk_call0 (va_runS (As := [.int a3]) (rest := []) ⟨hx, hb, hml, hown, hts⟩ (c_M_is l a3) (va_cwS 1 hts (gS tw_259 tw_260 tw_2 tw_261) rfl rfl rfl (by decide +kernel) ⟨Nat.le_of_ble_eq_true rfl, Nat.le_of_ble_eq_true rfl⟩) ⟨fun _ _ _ _ q => q, fun _ _ _ => ⟨rfl, trivial⟩⟩ rfl rfl hl.1 rfl (lv_room (Nat.le_of_ble_eq_true rfl)) dM_may_15 ⟨Nat.le_of_ble_eq_true rfl, Nat.le_of_ble_eq_true rfl⟩) hS (fun H locs hS => ?_)
      refine lv_if_eq (tgt := 25) hx hb dM_may_18 (by decide) (fun c_3 => ?_) (fun c_3 => ?_)
      · refine lv_iconst (v := (0 : Int32)) hx hb dM_may_25 (by decide) ?_
        exact W.zret (v := (0 : Int32)) hx hb hr (by decide) (fun tt ht hW => ⟨⟨(0 : Int32), (), rfl, (by unfold f_M_may; rw [if_neg c_1, if_neg c_2, if_pos c_3]), trivial⟩, hS.F ht⟩) hS.2.2 dM_may_26
      · refine lv_iconst (v := (1 : Int32)) hx hb dM_may_21 (by decide) ?_
        refine lv_goto (tgt := 26) hx hb dM_may_22 (by decide) ?_
        exact W.zret (v := (1 : Int32)) hx hb hr (by decide) (fun tt ht hW => ⟨⟨(1 : Int32), (), rfl, (by unfold f_M_may; rw [if_neg c_1, if_neg c_2, if_neg c_3]), trivial⟩, hS.F ht⟩) hS.2.2 dM_may_26

set_option maxHeartbeats 4000000 in
set_option maxRecDepth 100000 in
theorem c_M_isField (l : Launch) (h0 : Nat) (a1 : Int32) : Met l yM_isField wsM_isField ({ frames := 1, cells := 0, slots := 0, locals := 20 }) (va_Pc [.ref h0, .int a1] (fun _ => True)) (va_Qi (fun (r : Int32) (_ : Unit) => r = f_M_isField a1) (fun _ _ => True) (fun _ => False)) 0 0 (fun _ => False) := by
  refine Met.ofW (cc := prog_3_method_15_code) (maxL := 2) (ret := (some .boolean)) (by decide) rfl ?_
  intro p e s m args below meth c s₁ B hml hv
  obtain ⟨rfl, -⟩ := hv
  have hx := B.exec
  have hb := B.bytes
  have hr := B.returns
  have hts := fun (w : Cond) (h : w ∈ gw) => atoms_spec (ws := wsM_isField) B.pre w (List.mem_cons_of_mem _ h)
  have hown : s.vm.findClass RM = some m.cls := findClass_of_methodNamed B.named
  have hlocks := B.notSynchronized
  have hS : va_S (fun _ => False) s.heap s.heap [] := va_S.rf
  have hl := lv_entry ([.ref h0, .int a1]) (n := 2) (Nat.le_of_ble_eq_true rfl)
  rw [lg_entry_eq]
  generalize (lg_sl ([.ref h0, .int a1]) ++ List.replicate (2 - (lg_sl ([.ref h0, .int a1])).length) Slot.unset).toArray = ls at hl ⊢
  have hl : lv_has ls 2 [(0, .ref h0), (1, .int a1)] := hl
  refine lv_iload_n hx hb dM_isField_0 rfl (lv_at hl 1 rfl) ?_
  refine kk_call0 (va_runS (As := [.int a1]) (rest := []) ⟨hx, hb, hml, hown, hts⟩ (c_M_is l a1) (va_cwS 1 hts (gS tw_259 tw_260 tw_2 tw_261) rfl rfl rfl (by decide +kernel) ⟨Nat.le_of_ble_eq_true rfl, Nat.le_of_ble_eq_true rfl⟩) ⟨fun _ _ _ _ q => q, fun _ _ _ => ⟨rfl, trivial⟩⟩ rfl rfl hl.1 rfl (lv_room (Nat.le_of_ble_eq_true rfl)) dM_isField_1 ⟨Nat.le_of_ble_eq_true rfl, Nat.le_of_ble_eq_true rfl⟩) hS (fun H locs hS => ?_)
  exact W.zret (v := (f_M_is a1)) hx hb hr (nar_is _) (fun tt ht hW => ⟨⟨(f_M_is a1), (), rfl, (by rfl), trivial⟩, hS.F ht⟩) hS.2.2 dM_isField_4
