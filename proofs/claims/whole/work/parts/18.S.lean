
set_option maxHeartbeats 4000000 in
set_option maxRecDepth 100000 in
theorem c_S_coder (l : Launch) (sK sV : Nat) : Met l yS_coder wsS_coder ({ frames := 0, cells := 0, slots := 0, locals := 0 }) (va_Pc [.ref sK] (fun U => sOK sK sV (fun _ => False) U U.heap)) (va_Qi (fun (r : Int32) (_ : Unit) => r = (0 : Int32)) (fun _ _ => True) (fun _ => False)) 0 0 (fun _ => False) := by
  refine Met.ofW (cc := prog_6_method_152_code) (maxL := 1) (ret := (some .byte)) (by decide) rfl ?_
  intro p e s m args below meth c s₁ B hml hv
  obtain ⟨rfl, hE⟩ := hv
  have hx := B.exec
  have hb := B.bytes
  have hr := B.returns
  have hts := fun (w : Cond) (h : w ∈ gw) => atoms_spec (ws := wsS_coder) B.pre w (List.mem_cons_of_mem _ h)
  have hown : s.vm.findClass RS = some m.cls := findClass_of_methodNamed B.named
  have hlocks := B.notSynchronized
  have hS : va_S (fun _ => False) s.heap s.heap [] := va_S.rf
  have hl := lv_entry ([.ref sK]) (n := 1) (Nat.le_of_ble_eq_true rfl)
  rw [lg_entry_eq]
  generalize (lg_sl ([.ref sK]) ++ List.replicate (1 - (lg_sl ([.ref sK])).length) Slot.unset).toArray = ls at hl ⊢
  have hl : lv_has ls 1 [(0, .ref sK)] := hl
  refine va_gets (v := .int 1) hx hb hE.2.2.2.2.1 hS hown (hts _ tw_103) (fun _ h9 => h9) dS_coder_0 ?_
  refine lv_if_eq (tgt := 13) hx hb dS_coder_3 (by decide) (fun c0 => absurd c0 (by decide)) (fun _ => ?_)
  refine lv_aload_n hx hb dS_coder_6 rfl (lv_at hl 0 rfl) ?_
  refine vk_getf (v := .int 0) hx hb hE.2.1 hS hown (hts _ tw_290) (fun _ h9 => h9) dS_coder_7 ?_
  refine lv_goto (tgt := 14) hx hb dS_coder_10 (by decide) ?_
  exact W.zret (v := (0 : Int32)) hx hb hr (by decide) (fun tt ht hW => ⟨⟨(0 : Int32), (), rfl, (by decide), trivial⟩, hS.F ht⟩) hS.2.2 dS_coder_14


set_option maxHeartbeats 4000000 in
set_option maxRecDepth 100000 in
theorem c_S_isLatin1 (l : Launch) (sK sV : Nat) : Met l yS_isLatin1 wsS_isLatin1 ({ frames := 0, cells := 0, slots := 0, locals := 0 }) (va_Pc [.ref sK] (fun U => sOK sK sV (fun _ => False) U U.heap)) (va_Qi (fun (r : Int32) (_ : Unit) => r = (1 : Int32)) (fun _ _ => True) (fun _ => False)) 0 0 (fun _ => False) := by
  refine Met.ofW (cc := prog_6_method_154_code) (maxL := 1) (ret := (some .boolean)) (by decide) rfl ?_
  intro p e s m args below meth c s₁ B hml hv
  obtain ⟨rfl, hE⟩ := hv
  have hx := B.exec
  have hb := B.bytes
  have hr := B.returns
  have hts := fun (w : Cond) (h : w ∈ gw) => atoms_spec (ws := wsS_isLatin1) B.pre w (List.mem_cons_of_mem _ h)
  have hown : s.vm.findClass RS = some m.cls := findClass_of_methodNamed B.named
  have hlocks := B.notSynchronized
  have hS : va_S (fun _ => False) s.heap s.heap [] := va_S.rf
  have hl := lv_entry ([.ref sK]) (n := 1) (Nat.le_of_ble_eq_true rfl)
  rw [lg_entry_eq]
  generalize (lg_sl ([.ref sK]) ++ List.replicate (1 - (lg_sl ([.ref sK])).length) Slot.unset).toArray = ls at hl ⊢
  have hl : lv_has ls 1 [(0, .ref sK)] := hl
  refine va_gets (v := .int 1) hx hb hE.2.2.2.2.1 hS hown (hts _ tw_103) (fun _ h9 => h9) dS_isLatin1_0 ?_
  refine lv_if_eq (tgt := 17) hx hb dS_isLatin1_3 (by decide) (fun c0 => absurd c0 (by decide)) (fun _ => ?_)
  refine lv_aload_n hx hb dS_isLatin1_6 rfl (lv_at hl 0 rfl) ?_
  refine vk_getf (v := .int 0) hx hb hE.2.1 hS hown (hts _ tw_290) (fun _ h9 => h9) dS_isLatin1_7 ?_
  refine lv_if_ne (tgt := 17) hx hb dS_isLatin1_10 (by decide) (fun c0 => absurd (by decide) c0) (fun _ => ?_)
  refine lv_iconst (v := (1 : Int32)) hx hb dS_isLatin1_13 (by decide) ?_
  refine lv_goto (tgt := 18) hx hb dS_isLatin1_14 (by decide) ?_
  exact W.zret (v := (1 : Int32)) hx hb hr (by decide) (fun tt ht hW => ⟨⟨(1 : Int32), (), rfl, (by decide), trivial⟩, hS.F ht⟩) hS.2.2 dS_isLatin1_18


set_option maxHeartbeats 4000000 in
set_option maxRecDepth 100000 in
theorem c_S_length (l : Launch) (sK sV : Nat) : Met l yS_length wsS_length ({ frames := 1, cells := 0, slots := 0, locals := 20 }) (va_Pc [.ref sK] (fun U => sOK sK sV (fun _ => False) U U.heap)) (va_Qi (fun (r : Int32) (_ : Unit) => r = (56 : Int32)) (fun _ _ => True) (fun _ => False)) 0 0 (fun _ => False) := by
  refine Met.ofW (cc := prog_6_method_54_code) (maxL := 1) (ret := (some .int)) (by decide) rfl ?_
  intro p e s m args below meth c s₁ B hml hv
  obtain ⟨rfl, hE⟩ := hv
  have hx := B.exec
  have hb := B.bytes
  have hr := B.returns
  have hts := fun (w : Cond) (h : w ∈ gw) => atoms_spec (ws := wsS_length) B.pre w (List.mem_cons_of_mem _ h)
  have hown : s.vm.findClass RS = some m.cls := findClass_of_methodNamed B.named
  have hlocks := B.notSynchronized
  have hS : va_S (fun _ => False) s.heap s.heap [] := va_S.rf
  have hl := lv_entry ([.ref sK]) (n := 1) (Nat.le_of_ble_eq_true rfl)
  rw [lg_entry_eq]
  generalize (lg_sl ([.ref sK]) ++ List.replicate (1 - (lg_sl ([.ref sK])).length) Slot.unset).toArray = ls at hl ⊢
  have hl : lv_has ls 1 [(0, .ref sK)] := hl
  refine lv_aload_n hx hb dS_length_0 rfl (lv_at hl 0 rfl) ?_
  refine vk_getf (v := .ref sV) hx hb hE.2.2.1 hS hown (hts _ tw_289) (fun _ h9 => h9) dS_length_1 ?_
  refine va_tlen (v := (56 : Int32)) hx hb hE.2.2.2.1 hS rfl dS_length_4 ?_
  refine lv_aload_n hx hb dS_length_5 rfl (lv_at hl 0 rfl) ?_
  refine kk_call0 (va_runV (As := []) (rest := [.int (56 : Int32)]) ⟨hx, hb, hml, hown, hts⟩ (c_S_coder l sK sV ) (cwV 0 hts (gV tw_99 tw_100 tw_101 tw_4 tw_102) rfl rfl rfl (by decide +kernel) ⟨Nat.le_of_ble_eq_true rfl, Nat.le_of_ble_eq_true rfl⟩) ⟨fun _ _ _ _ q => ⟨q.1, q.2.bl⟩, (hE.rc hS), fun U hU hW => ⟨rfl, hE.go hS hU hW⟩⟩ rfl rfl hl.1 rfl (lv_room (Nat.le_of_ble_eq_true rfl)) dS_length_6 ⟨Nat.le_of_ble_eq_true rfl, Nat.le_of_ble_eq_true rfl⟩) hS (fun H locs hS => ?_)
  refine lv_ishr hx hb dS_length_9 ?_
  exact W.iret (v := ((56 : Int32) >>> ((0 : Int32) &&& 31))) hx hb hr (fun tt ht hW => ⟨⟨((56 : Int32) >>> ((0 : Int32) &&& 31)), (), rfl, (by decide), trivial⟩, hS.F ht⟩) hS.2.2 dS_length_10

set_option maxHeartbeats 4000000 in
set_option maxRecDepth 100000 in
theorem c_Q_checkIndex (l : Launch) (a1 : Int32) (h1 : vp_in a1 56) : Met l yQ_checkIndex wsQ_checkIndex ({ frames := 0, cells := 0, slots := 0, locals := 0 }) (va_Pc [.int a1, .int (56 : Int32), .null] (fun _ => True)) (va_Qi (fun (r : Int32) (_ : Unit) => r = f_Q_checkIndex a1) (fun _ _ => True) (fun _ => False)) 0 0 (fun _ => False) := by
  refine Met.ofW (cc := prog_9_method_11_code) (maxL := 3) (ret := (some .int)) (by decide) rfl ?_
  intro p e s m args below meth c s₁ B hml hv
  obtain ⟨rfl, -⟩ := hv
  have hx := B.exec
  have hb := B.bytes
  have hr := B.returns
  have hts := fun (w : Cond) (h : w ∈ gw) => atoms_spec (ws := wsQ_checkIndex) B.pre w (List.mem_cons_of_mem _ h)
  have hown : s.vm.findClass RQ = some m.cls := findClass_of_methodNamed B.named
  have hlocks := B.notSynchronized
  have hS : va_S (fun _ => False) s.heap s.heap [] := va_S.rf
  have hl := lv_entry ([.int a1, .int (56 : Int32), .null]) (n := 3) (Nat.le_of_ble_eq_true rfl)
  rw [lg_entry_eq]
  generalize (lg_sl ([.int a1, .int (56 : Int32), .null]) ++ List.replicate (3 - (lg_sl ([.int a1, .int (56 : Int32), .null])).length) Slot.unset).toArray = ls at hl ⊢
  have hl : lv_has ls 3 [(0, .int a1), (1, .int (56 : Int32)), (2, .null)] := hl
  refine lv_iload_n hx hb dQ_checkIndex_0 rfl (lv_at hl 0 rfl) ?_
  refine lv_if_lt (tgt := 9) hx hb dQ_checkIndex_1 (by decide) (fun c0 => absurd c0 (in_n0 h1)) (fun _ => ?_)
  refine lv_iload_n hx hb dQ_checkIndex_4 rfl (lv_at hl 0 rfl) ?_
  refine lv_iload_n hx hb dQ_checkIndex_5 rfl (lv_at hl 1 rfl) ?_
  refine lv_icmp_lt (tgt := 16) hx hb dQ_checkIndex_6 (by decide) (fun _ => ?_) (fun c0 => absurd (in_n56 h1) c0)
  refine lv_iload_n hx hb dQ_checkIndex_16 rfl (lv_at hl 0 rfl) ?_
  exact W.iret (v := a1) hx hb hr (fun tt ht hW => ⟨⟨a1, (), rfl, (by rfl), trivial⟩, hS.F ht⟩) hS.2.2 dQ_checkIndex_17

set_option maxHeartbeats 4000000 in
set_option maxRecDepth 100000 in
theorem c_Q_checkIndexR (l : Launch) (a1 : Int32) (t9 : Nat) (h1 : vp_in a1 56) : Met l yQ_checkIndex wsQ_checkIndex ({ frames := 0, cells := 0, slots := 0, locals := 0 }) (va_Pc [.int a1, .int (56 : Int32), .ref t9] (fun _ => True)) (va_Qi (fun (r : Int32) (_ : Unit) => r = f_Q_checkIndexR a1) (fun _ _ => True) (fun _ => False)) 0 0 (fun _ => False) := by
  refine Met.ofW (cc := prog_9_method_11_code) (maxL := 3) (ret := (some .int)) (by decide) rfl ?_
  intro p e s m args below meth c s₁ B hml hv
  obtain ⟨rfl, -⟩ := hv
  have hx := B.exec
  have hb := B.bytes
  have hr := B.returns
  have hts := fun (w : Cond) (h : w ∈ gw) => atoms_spec (ws := wsQ_checkIndex) B.pre w (List.mem_cons_of_mem _ h)
  have hown : s.vm.findClass RQ = some m.cls := findClass_of_methodNamed B.named
  have hlocks := B.notSynchronized
  have hS : va_S (fun _ => False) s.heap s.heap [] := va_S.rf
  have hl := lv_entry ([.int a1, .int (56 : Int32), .ref t9]) (n := 3) (Nat.le_of_ble_eq_true rfl)
  rw [lg_entry_eq]
  generalize (lg_sl ([.int a1, .int (56 : Int32), .ref t9]) ++ List.replicate (3 - (lg_sl ([.int a1, .int (56 : Int32), .ref t9])).length) Slot.unset).toArray = ls at hl ⊢
  have hl : lv_has ls 3 [(0, .int a1), (1, .int (56 : Int32)), (2, .ref t9)] := hl
  refine lv_iload_n hx hb dQ_checkIndex_0 rfl (lv_at hl 0 rfl) ?_
  refine lv_if_lt (tgt := 9) hx hb dQ_checkIndex_1 (by decide) (fun c0 => absurd c0 (in_n0 h1)) (fun _ => ?_)
  refine lv_iload_n hx hb dQ_checkIndex_4 rfl (lv_at hl 0 rfl) ?_
  refine lv_iload_n hx hb dQ_checkIndex_5 rfl (lv_at hl 1 rfl) ?_
  refine lv_icmp_lt (tgt := 16) hx hb dQ_checkIndex_6 (by decide) (fun _ => ?_) (fun c0 => absurd (in_n56 h1) c0)
  refine lv_iload_n hx hb dQ_checkIndex_16 rfl (lv_at hl 0 rfl) ?_
  exact W.iret (v := a1) hx hb hr (fun tt ht hW => ⟨⟨a1, (), rfl, (by rfl), trivial⟩, hS.F ht⟩) hS.2.2 dQ_checkIndex_17

set_option maxHeartbeats 4000000 in
set_option maxRecDepth 100000 in
theorem c_S_checkIndex (l : Launch) (sK sV : Nat) (a1 : Int32) (h1 : vp_in a1 56) : Met l yS_checkIndex wsS_checkIndex ({ frames := 1, cells := 0, slots := 0, locals := 22 }) (va_Pc [.int a1, .int (56 : Int32)] (fun U => sOK sK sV (fun _ => False) U U.heap)) (va_Qv (fun _ : Unit => True) (fun _ _ => True) (fun _ => False)) 0 0 (fun _ => False) := by
  refine Met.ofW (cc := prog_6_method_155_code) (maxL := 2) (ret := none) (by decide) rfl ?_
  intro p e s m args below meth c s₁ B hml hv
  obtain ⟨rfl, hE⟩ := hv
  have hx := B.exec
  have hb := B.bytes
  have hr := B.returns
  have hts := fun (w : Cond) (h : w ∈ gw) => atoms_spec (ws := wsS_checkIndex) B.pre w (List.mem_cons_of_mem _ h)
  have hown : s.vm.findClass RS = some m.cls := findClass_of_methodNamed B.named
  have hlocks := B.notSynchronized
  have hS : va_S (fun _ => False) s.heap s.heap [] := va_S.rf
  have hl := lv_entry ([.int a1, .int (56 : Int32)]) (n := 2) (Nat.le_of_ble_eq_true rfl)
  rw [lg_entry_eq]
  generalize (lg_sl ([.int a1, .int (56 : Int32)]) ++ List.replicate (2 - (lg_sl ([.int a1, .int (56 : Int32)])).length) Slot.unset).toArray = ls at hl ⊢
  have hl : lv_has ls 2 [(0, .int a1), (1, .int (56 : Int32))] := hl
  refine lv_iload_n hx hb dS_checkIndex_0 rfl (lv_at hl 0 rfl) ?_
  refine lv_iload_n hx hb dS_checkIndex_1 rfl (lv_at hl 1 rfl) ?_
  rcases hE.zq with hz | ⟨t9, hz⟩
  ·
    refine va_gets (v := .null) hx hb hz hS hown (hts _ tw_119) (fun _ h9 => h9) dS_checkIndex_2 ?_
    refine kk_call0 (va_runS (As := [.int a1, .int (56 : Int32), .null]) (rest := []) ⟨hx, hb, hml, hown, hts⟩ (c_Q_checkIndex l a1 h1) (va_cwS 3 hts (gS tw_121 tw_122 tw_6 tw_123) rfl rfl rfl (by decide +kernel) ⟨Nat.le_of_ble_eq_true rfl, Nat.le_of_ble_eq_true rfl⟩) ⟨fun _ _ _ _ q => q, fun _ _ _ => ⟨rfl, trivial⟩⟩ rfl rfl hl.1 rfl (lv_room (Nat.le_of_ble_eq_true rfl)) dS_checkIndex_5 ⟨Nat.le_of_ble_eq_true rfl, Nat.le_of_ble_eq_true rfl⟩) hS (fun H locs hS => ?_)
    refine lv_pop hx hb dS_checkIndex_8 rfl ?_
    exact W.vret hx hb hr (fun tt ht hW => ⟨⟨(), rfl, trivial, trivial⟩, hS.F ht⟩) hS.2.2 dS_checkIndex_9
  ·
    refine va_gets (v := .ref t9) hx hb hz hS hown (hts _ tw_119) (fun _ h9 => h9) dS_checkIndex_2 ?_
    refine kk_call0 (va_runS (As := [.int a1, .int (56 : Int32), .ref t9]) (rest := []) ⟨hx, hb, hml, hown, hts⟩ (c_Q_checkIndexR l a1 t9 h1) (va_cwS 3 hts (gS tw_121 tw_122 tw_6 tw_123) rfl rfl rfl (by decide +kernel) ⟨Nat.le_of_ble_eq_true rfl, Nat.le_of_ble_eq_true rfl⟩) ⟨fun _ _ _ _ q => q, fun _ _ _ => ⟨rfl, trivial⟩⟩ rfl rfl hl.1 rfl (lv_room (Nat.le_of_ble_eq_true rfl)) dS_checkIndex_5 ⟨Nat.le_of_ble_eq_true rfl, Nat.le_of_ble_eq_true rfl⟩) hS (fun H locs hS => ?_)
    refine lv_pop hx hb dS_checkIndex_8 rfl ?_
    exact W.vret hx hb hr (fun tt ht hW => ⟨⟨(), rfl, trivial, trivial⟩, hS.F ht⟩) hS.2.2 dS_checkIndex_9

set_option maxHeartbeats 4000000 in
set_option maxRecDepth 100000 in
theorem c_Z_charAt (l : Launch) (sK sV : Nat) (a1 : Int32) (h1 : vp_in a1 56) : Met l yZ_charAt wsZ_charAt ({ frames := 2, cells := 0, slots := 0, locals := 43 }) (va_Pc [.ref sV, .int a1] (fun U => sOK sK sV (fun _ => False) U U.heap)) (va_Qi (fun (r : Int32) (_ : Unit) => r = f_Z_charAt a1) (fun _ _ => True) (fun _ => False)) 0 0 (fun _ => False) := by
  refine Met.ofW (cc := prog_7_method_2_code) (maxL := 2) (ret := (some .char)) (by decide) rfl ?_
  intro p e s m args below meth c s₁ B hml hv
  obtain ⟨rfl, hE⟩ := hv
  have hx := B.exec
  have hb := B.bytes
  have hr := B.returns
  have hts := fun (w : Cond) (h : w ∈ gw) => atoms_spec (ws := wsZ_charAt) B.pre w (List.mem_cons_of_mem _ h)
  have hown : s.vm.findClass RZ = some m.cls := findClass_of_methodNamed B.named
  have hlocks := B.notSynchronized
  have hS : va_S (fun _ => False) s.heap s.heap [] := va_S.rf
  have hl := lv_entry ([.ref sV, .int a1]) (n := 2) (Nat.le_of_ble_eq_true rfl)
  rw [lg_entry_eq]
  generalize (lg_sl ([.ref sV, .int a1]) ++ List.replicate (2 - (lg_sl ([.ref sV, .int a1])).length) Slot.unset).toArray = ls at hl ⊢
  have hl : lv_has ls 2 [(0, .ref sV), (1, .int a1)] := hl
  refine lv_iload_n hx hb dZ_charAt_0 rfl (lv_at hl 1 rfl) ?_
  refine lv_aload_n hx hb dZ_charAt_1 rfl (lv_at hl 0 rfl) ?_
  refine va_tlen (v := (56 : Int32)) hx hb hE.2.2.2.1 hS rfl dZ_charAt_2 ?_
  refine kk_callv0 (va_runS (As := [.int a1, .int (56 : Int32)]) (rest := []) ⟨hx, hb, hml, hown, hts⟩ (c_S_checkIndex l sK sV a1 h1) (va_cwS 2 hts (gS tw_116 tw_117 tw_4 tw_118) rfl rfl rfl (by decide +kernel) ⟨Nat.le_of_ble_eq_true rfl, Nat.le_of_ble_eq_true rfl⟩) ⟨fun _ _ _ _ q => ⟨q.1, q.2.bl⟩, fun U hU hW => ⟨rfl, hE.go hS hU hW⟩⟩ rfl rfl hl.1 rfl (lv_room (Nat.le_of_ble_eq_true rfl)) dZ_charAt_3 ⟨Nat.le_of_ble_eq_true rfl, Nat.le_of_ble_eq_true rfl⟩) hS (fun H locs hS => ?_)
  refine lv_aload_n hx hb dZ_charAt_6 rfl (lv_at hl 0 rfl) ?_
  refine lv_iload_n hx hb dZ_charAt_7 rfl (lv_at hl 1 rfl) ?_
  refine va_tb (v := .int (sby a1.toNatClampNeg)) hx hb hE.2.2.2.1 hS (h1) rfl dZ_charAt_8 ?_
  refine lv_sipush (v := (255 : Int32)) hx hb dZ_charAt_9 (by decide) ?_
  refine lv_iand hx hb dZ_charAt_12 ?_
  refine lv_i2c hx hb dZ_charAt_13 rfl ?_
  exact W.zret (v := (((sby a1.toNatClampNeg) &&& (255 : Int32)).toUInt32 % 65536).toInt32) hx hb hr (pk_nc _) (fun tt ht hW => ⟨⟨(((sby a1.toNatClampNeg) &&& (255 : Int32)).toUInt32 % 65536).toInt32, (), rfl, (by rfl), trivial⟩, hS.F ht⟩) hS.2.2 dZ_charAt_14

theorem nar_ch (x : Int32) : narrow .char (.int (f_Z_charAt x)) = .int (f_Z_charAt x) := pk_nc _

set_option maxHeartbeats 4000000 in
set_option maxRecDepth 100000 in
theorem c_S_charAt (l : Launch) (sK sV : Nat) (a1 : Int32) (h1 : vp_in a1 56) : Met l yS_charAt wsS_charAt ({ frames := 3, cells := 0, slots := 0, locals := 64 }) (va_Pc [.ref sK, .int a1] (fun U => sOK sK sV (fun _ => False) U U.heap)) (va_Qi (fun (r : Int32) (_ : Unit) => r = f_S_charAt a1) (fun _ _ => True) (fun _ => False)) 0 0 (fun _ => False) := by
  refine Met.ofW (cc := prog_6_method_56_code) (maxL := 2) (ret := (some .char)) (by decide) rfl ?_
  intro p e s m args below meth c s₁ B hml hv
  obtain ⟨rfl, hE⟩ := hv
  have hx := B.exec
  have hb := B.bytes
  have hr := B.returns
  have hts := fun (w : Cond) (h : w ∈ gw) => atoms_spec (ws := wsS_charAt) B.pre w (List.mem_cons_of_mem _ h)
  have hown : s.vm.findClass RS = some m.cls := findClass_of_methodNamed B.named
  have hlocks := B.notSynchronized
  have hS : va_S (fun _ => False) s.heap s.heap [] := va_S.rf
  have hl := lv_entry ([.ref sK, .int a1]) (n := 2) (Nat.le_of_ble_eq_true rfl)
  rw [lg_entry_eq]
  generalize (lg_sl ([.ref sK, .int a1]) ++ List.replicate (2 - (lg_sl ([.ref sK, .int a1])).length) Slot.unset).toArray = ls at hl ⊢
  have hl : lv_has ls 2 [(0, .ref sK), (1, .int a1)] := hl
  refine lv_aload_n hx hb dS_charAt_0 rfl (lv_at hl 0 rfl) ?_
  refine kk_call0 (va_runV (As := []) (rest := []) ⟨hx, hb, hml, hown, hts⟩ (c_S_isLatin1 l sK sV ) (cwV 0 hts (gV tw_109 tw_110 tw_111 tw_4 tw_112) rfl rfl rfl (by decide +kernel) ⟨Nat.le_of_ble_eq_true rfl, Nat.le_of_ble_eq_true rfl⟩) ⟨fun _ _ _ _ q => ⟨q.1, q.2.bl⟩, (hE.rc hS), fun U hU hW => ⟨rfl, hE.go hS hU hW⟩⟩ rfl rfl hl.1 rfl (lv_room (Nat.le_of_ble_eq_true rfl)) dS_charAt_1 ⟨Nat.le_of_ble_eq_true rfl, Nat.le_of_ble_eq_true rfl⟩) hS (fun H locs hS => ?_)
  refine lv_if_eq (tgt := 16) hx hb dS_charAt_4 (by decide) (fun c0 => absurd c0 (by decide)) (fun _ => ?_)
  refine lv_aload_n hx hb dS_charAt_7 rfl (lv_at hl 0 rfl) ?_
  refine vk_getf (v := .ref sV) hx hb hE.2.2.1 hS hown (hts _ tw_289) (fun _ h9 => h9) dS_charAt_8 ?_
  refine lv_iload_n hx hb dS_charAt_11 rfl (lv_at hl 1 rfl) ?_
  refine kk_call0 (va_runS (As := [.ref sV, .int a1]) (rest := []) ⟨hx, hb, hml, hown, hts⟩ (c_Z_charAt l sK sV a1 h1) (va_cwS 2 hts (gS tw_113 tw_114 tw_5 tw_115) rfl rfl rfl (by decide +kernel) ⟨Nat.le_of_ble_eq_true rfl, Nat.le_of_ble_eq_true rfl⟩) ⟨fun _ _ _ _ q => ⟨q.1, q.2.bl⟩, fun U hU hW => ⟨rfl, hE.go hS hU hW⟩⟩ rfl rfl hl.1 rfl (lv_room (Nat.le_of_ble_eq_true rfl)) dS_charAt_12 ⟨Nat.le_of_ble_eq_true rfl, Nat.le_of_ble_eq_true rfl⟩) hS (fun H locs hS => ?_)
  exact W.zret (v := (f_Z_charAt a1)) hx hb hr (nar_ch _) (fun tt ht hW => ⟨⟨(f_Z_charAt a1), (), rfl, (by rfl), trivial⟩, hS.F ht⟩) hS.2.2 dS_charAt_15

set_option maxHeartbeats 4000000 in
set_option maxRecDepth 100000 in
theorem c_Z_canEncode (l : Launch) (a1 : Int32) : Met l yZ_canEncode wsZ_canEncode ({ frames := 0, cells := 0, slots := 0, locals := 0 }) (va_Pc [.int a1] (fun _ => True)) (va_Qi (fun (r : Int32) (_ : Unit) => r = f_Z_canEncode a1) (fun _ _ => True) (fun _ => False)) 0 0 (fun _ => False) := by
  refine Met.ofW (cc := prog_7_method_4_code) (maxL := 1) (ret := (some .boolean)) (by decide) rfl ?_
  intro p e s m args below meth c s₁ B hml hv
  obtain ⟨rfl, -⟩ := hv
  have hx := B.exec
  have hb := B.bytes
  have hr := B.returns
  have hts := fun (w : Cond) (h : w ∈ gw) => atoms_spec (ws := wsZ_canEncode) B.pre w (List.mem_cons_of_mem _ h)
  have hown : s.vm.findClass RZ = some m.cls := findClass_of_methodNamed B.named
  have hlocks := B.notSynchronized
  have hS : va_S (fun _ => False) s.heap s.heap [] := va_S.rf
  have hl := lv_entry ([.int a1]) (n := 1) (Nat.le_of_ble_eq_true rfl)
  rw [lg_entry_eq]
  generalize (lg_sl ([.int a1]) ++ List.replicate (1 - (lg_sl ([.int a1])).length) Slot.unset).toArray = ls at hl ⊢
  have hl : lv_has ls 1 [(0, .int a1)] := hl
  refine lv_iload_n hx hb dZ_canEncode_0 rfl (lv_at hl 0 rfl) ?_
  refine lv_if_lt (tgt := 15) hx hb dZ_canEncode_1 (by decide) (fun c_1 => ?_) (fun c_1 => ?_)
  · refine lv_iconst (v := (0 : Int32)) hx hb dZ_canEncode_15 (by decide) ?_
    exact W.zret (v := (0 : Int32)) hx hb hr (by decide) (fun tt ht hW => ⟨⟨(0 : Int32), (), rfl, (by unfold f_Z_canEncode; rw [if_pos c_1]), trivial⟩, hS.F ht⟩) hS.2.2 dZ_canEncode_16
  · refine lv_iload_n hx hb dZ_canEncode_4 rfl (lv_at hl 0 rfl) ?_
    refine lv_sipush (v := (255 : Int32)) hx hb dZ_canEncode_5 (by decide) ?_
    refine lv_icmp_gt (tgt := 15) hx hb dZ_canEncode_8 (by decide) (fun c_2 => ?_) (fun c_2 => ?_)
    · refine lv_iconst (v := (0 : Int32)) hx hb dZ_canEncode_15 (by decide) ?_
      exact W.zret (v := (0 : Int32)) hx hb hr (by decide) (fun tt ht hW => ⟨⟨(0 : Int32), (), rfl, (by unfold f_Z_canEncode; rw [if_neg c_1, if_pos c_2]), trivial⟩, hS.F ht⟩) hS.2.2 dZ_canEncode_16
    · refine lv_iconst (v := (1 : Int32)) hx hb dZ_canEncode_11 (by decide) ?_
      refine lv_goto (tgt := 16) hx hb dZ_canEncode_12 (by decide) ?_
      exact W.zret (v := (1 : Int32)) hx hb hr (by decide) (fun tt ht hW => ⟨⟨(1 : Int32), (), rfl, (by unfold f_Z_canEncode; rw [if_neg c_1, if_neg c_2]), trivial⟩, hS.F ht⟩) hS.2.2 dZ_canEncode_16

set_option maxHeartbeats 4000000 in
set_option maxRecDepth 100000 in
theorem c_Z_indexOfChar (l : Launch) (sK sV : Nat) (a1 : Int32) : Met l yZ_indexOfChar wsZ_indexOfChar ({ frames := 0, cells := 0, slots := 0, locals := 0 }) (va_Pc [.ref sV, .int a1, .int (0 : Int32), .int (56 : Int32)] (fun U => sOK sK sV (fun _ => False) U U.heap)) (va_Qi (fun (r : Int32) (_ : Unit) => r = f_Z_indexOfChar a1) (fun _ _ => True) (fun _ => False)) 0 0 (fun _ => False) := by
  refine Met.ofW (cc := prog_7_method_23_code) (maxL := 6) (ret := (some .int)) (by decide) rfl ?_
  intro p e s m args below meth c s₁ B hml hv
  obtain ⟨rfl, hE⟩ := hv
  have hx := B.exec
  have hb := B.bytes
  have hr := B.returns
  have hts := fun (w : Cond) (h : w ∈ gw) => atoms_spec (ws := wsZ_indexOfChar) B.pre w (List.mem_cons_of_mem _ h)
  have hown : s.vm.findClass RZ = some m.cls := findClass_of_methodNamed B.named
  have hlocks := B.notSynchronized
  have hS : va_S (fun _ => False) s.heap s.heap [] := va_S.rf
  have hl := lv_entry ([.ref sV, .int a1, .int (0 : Int32), .int (56 : Int32)]) (n := 6) (Nat.le_of_ble_eq_true rfl)
  rw [lg_entry_eq]
  generalize (lg_sl ([.ref sV, .int a1, .int (0 : Int32), .int (56 : Int32)]) ++ List.replicate (6 - (lg_sl ([.ref sV, .int a1, .int (0 : Int32), .int (56 : Int32)])).length) Slot.unset).toArray = ls at hl ⊢
  have hl : lv_has ls 6 [(0, .ref sV), (1, .int a1), (2, .int (0 : Int32)), (3, .int (56 : Int32))] := hl
  refine lv_iload_n hx hb dZ_indexOfChar_0 rfl (lv_at hl 1 rfl) ?_
  refine lv_i2b hx hb dZ_indexOfChar_1 rfl ?_
  refine lv_istore (lv' := [(4, .int a1.toInt8.toInt32), (0, .ref sV), (1, .int a1), (2, .int (0 : Int32)), (3, .int (56 : Int32))]) hx hb dZ_indexOfChar_2 hl (by decide) rfl (fun ls hl => ?_)
  refine lv_iload_n hx hb dZ_indexOfChar_4 rfl (lv_at hl 3 rfl) ?_
  refine lv_istore (lv' := [(5, .int (0 : Int32)), (4, .int a1.toInt8.toInt32), (0, .ref sV), (1, .int a1), (2, .int (0 : Int32)), (3, .int (56 : Int32))]) hx hb dZ_indexOfChar_5 hl (by decide) rfl (fun ls hl => ?_)
  refine kk_ind (I := fun k fd ls => fd = 0 ∧ ixF a1.toInt8.toInt32 56 0 = ixF a1.toInt8.toInt32 (56 - k) k ∧ lv_has ls 6 [(5, .int (nI k)), (4, .int a1.toInt8.toInt32), (0, .ref sV), (1, .int a1), (2, .int (0 : Int32)), (3, .int (56 : Int32))]) 56 (fun k fd ls hk hI ih => ?_) 0 (0 : Int32) ls (by decide) ⟨rfl, rfl, hl⟩
  obtain ⟨efd, eix, hl⟩ := hI
  refine lv_iload hx hb dZ_indexOfChar_7 (lv_at hl 0 rfl) ?_
  refine lv_iload_n hx hb dZ_indexOfChar_9 rfl (lv_at hl 5 rfl) ?_
  refine lv_icmp_ge (tgt := 31) hx hb dZ_indexOfChar_10 (by decide) (fun c_1 => ?_) (fun c_1 => ?_)
  · refine lv_iconst (v := (-1 : Int32)) hx hb dZ_indexOfChar_31 (by decide) ?_
    exact W.iret (v := (-1 : Int32)) hx hb hr (fun tt ht hW => ⟨⟨(-1 : Int32), (), rfl, (by unfold f_Z_indexOfChar; rw [eix]; exact (ixF_e hk c_1).symm), trivial⟩, hS.F ht⟩) hS.2.2 dZ_indexOfChar_32
  · refine lv_aload_n hx hb dZ_indexOfChar_13 rfl (lv_at hl 2 rfl) ?_
    refine lv_iload hx hb dZ_indexOfChar_14 (lv_at hl 0 rfl) ?_
    refine va_tb (v := .int (sby k)) hx hb hE.2.2.2.1 hS (vp_in_nI (lt_56 hk c_1) (by decide)) (by rw [nI_clamp (by omega)]) dZ_indexOfChar_16 ?_
    refine lv_iload hx hb dZ_indexOfChar_17 (lv_at hl 1 rfl) ?_
    refine lv_icmp_ne (tgt := 25) hx hb dZ_indexOfChar_19 (by decide) (fun c_2 => ?_) (fun c_2 => ?_)
    · refine lv_iinc (v := (nI (k + 1))) (lv' := [(5, .int (nI (k + 1))), (4, .int a1.toInt8.toInt32), (0, .ref sV), (1, .int a1), (2, .int (0 : Int32)), (3, .int (56 : Int32))]) hx hb dZ_indexOfChar_25 hl (k := 0) rfl (nI_1 k) (by decide) rfl (fun ls hl => ?_)
      refine lv_goto (tgt := 7) hx hb dZ_indexOfChar_28 (by decide) ?_
      exact ih 0 ls (lt_56 hk c_1) ⟨rfl, by rw [eix]; exact ixF_s (lt_56 hk c_1) c_2, lv_sub hl [0, 1, 2, 3, 4, 5] rfl⟩
    · refine lv_iload hx hb dZ_indexOfChar_22 (lv_at hl 0 rfl) ?_
      exact W.iret (v := (nI k)) hx hb hr (fun tt ht hW => ⟨⟨(nI k), (), rfl, (by unfold f_Z_indexOfChar; rw [eix]; exact (ixF_h (lt_56 hk c_1) c_2).symm), trivial⟩, hS.F ht⟩) hS.2.2 dZ_indexOfChar_24

set_option maxHeartbeats 4000000 in
set_option maxRecDepth 100000 in
theorem c_Z_indexOf (l : Launch) (sK sV : Nat) (a1 : Int32) : Met l yZ_indexOf wsZ_indexOf ({ frames := 1, cells := 0, slots := 0, locals := 25 }) (va_Pc [.ref sV, .int a1, .int (0 : Int32), .int (56 : Int32)] (fun U => sOK sK sV (fun _ => False) U U.heap)) (va_Qi (fun (r : Int32) (_ : Unit) => r = f_Z_indexOf a1) (fun _ _ => True) (fun _ => False)) 0 0 (fun _ => False) := by
  refine Met.ofW (cc := prog_7_method_22_code) (maxL := 4) (ret := (some .int)) (by decide) rfl ?_
  intro p e s m args below meth c s₁ B hml hv
  obtain ⟨rfl, hE⟩ := hv
  have hx := B.exec
  have hb := B.bytes
  have hr := B.returns
  have hts := fun (w : Cond) (h : w ∈ gw) => atoms_spec (ws := wsZ_indexOf) B.pre w (List.mem_cons_of_mem _ h)
  have hown : s.vm.findClass RZ = some m.cls := findClass_of_methodNamed B.named
  have hlocks := B.notSynchronized
  have hS : va_S (fun _ => False) s.heap s.heap [] := va_S.rf
  have hl := lv_entry ([.ref sV, .int a1, .int (0 : Int32), .int (56 : Int32)]) (n := 4) (Nat.le_of_ble_eq_true rfl)
  rw [lg_entry_eq]
  generalize (lg_sl ([.ref sV, .int a1, .int (0 : Int32), .int (56 : Int32)]) ++ List.replicate (4 - (lg_sl ([.ref sV, .int a1, .int (0 : Int32), .int (56 : Int32)])).length) Slot.unset).toArray = ls at hl ⊢
  have hl : lv_has ls 4 [(0, .ref sV), (1, .int a1), (2, .int (0 : Int32)), (3, .int (56 : Int32))] := hl
  refine lv_iload_n hx hb dZ_indexOf_0 rfl (lv_at hl 1 rfl) ?_
  refine kk_call0 (va_runS (As := [.int a1]) (rest := []) ⟨hx, hb, hml, hown, hts⟩ (c_Z_canEncode l a1) (va_cwS 1 hts (gS tw_163 tw_164 tw_5 tw_165) rfl rfl rfl (by decide +kernel) ⟨Nat.le_of_ble_eq_true rfl, Nat.le_of_ble_eq_true rfl⟩) ⟨fun _ _ _ _ q => q, fun _ _ _ => ⟨rfl, trivial⟩⟩ rfl rfl hl.1 rfl (lv_room (Nat.le_of_ble_eq_true rfl)) dZ_indexOf_1 ⟨Nat.le_of_ble_eq_true rfl, Nat.le_of_ble_eq_true rfl⟩) hS (fun H locs hS => ?_)
  refine lv_if_ne (tgt := 9) hx hb dZ_indexOf_4 (by decide) (fun c_1 => ?_) (fun c_1 => ?_)
  · refine lv_iload_n hx hb dZ_indexOf_9 rfl (lv_at hl 2 rfl) ?_
    refine lv_iconst (v := (0 : Int32)) hx hb dZ_indexOf_10 (by decide) ?_
    refine va_mmax hx hb (hml.trans hl.1.symm) hown (hts _ tw_166) (hts _ tw_72) (hts _ tw_3) (hts _ tw_mmax) (Nat.le_of_ble_eq_true rfl) (Nat.le_of_ble_eq_true rfl) (Nat.le_of_ble_eq_true rfl) (Nat.le_of_ble_eq_true rfl) dZ_indexOf_11 ?_
    refine kk_top (y := (0 : Int32)) (by decide) ?_
    refine lv_istore_n (lv' := [(2, .int (0 : Int32)), (0, .ref sV), (1, .int a1), (3, .int (56 : Int32))]) hx hb dZ_indexOf_14 rfl hl (by decide) rfl (fun ls hl => ?_)
    refine lv_iload_n hx hb dZ_indexOf_15 rfl (lv_at hl 3 rfl) ?_
    refine lv_aload_n hx hb dZ_indexOf_16 rfl (lv_at hl 1 rfl) ?_
    refine va_tlen (v := (56 : Int32)) hx hb hE.2.2.2.1 hS rfl dZ_indexOf_17 ?_
    refine va_mmin hx hb (hml.trans hl.1.symm) hown (hts _ tw_167) (hts _ tw_168) (hts _ tw_3) (hts _ tw_mmin) (Nat.le_of_ble_eq_true rfl) (Nat.le_of_ble_eq_true rfl) (Nat.le_of_ble_eq_true rfl) (Nat.le_of_ble_eq_true rfl) dZ_indexOf_18 ?_
    refine kk_top (y := (56 : Int32)) (by decide) ?_
    refine lv_istore_n (lv' := [(3, .int (56 : Int32)), (2, .int (0 : Int32)), (0, .ref sV), (1, .int a1)]) hx hb dZ_indexOf_21 rfl hl (by decide) rfl (fun ls hl => ?_)
    refine lv_iload_n hx hb dZ_indexOf_22 rfl (lv_at hl 1 rfl) ?_
    refine lv_iload_n hx hb dZ_indexOf_23 rfl (lv_at hl 0 rfl) ?_
    refine lv_icmp_lt (tgt := 29) hx hb dZ_indexOf_24 (by decide) (fun _ => ?_) (fun c0 => absurd (by decide) c0)
    refine lv_aload_n hx hb dZ_indexOf_29 rfl (lv_at hl 2 rfl) ?_
    refine lv_iload_n hx hb dZ_indexOf_30 rfl (lv_at hl 3 rfl) ?_
    refine lv_iload_n hx hb dZ_indexOf_31 rfl (lv_at hl 1 rfl) ?_
    refine lv_iload_n hx hb dZ_indexOf_32 rfl (lv_at hl 0 rfl) ?_
    refine kk_call0 (va_runS (As := [.ref sV, .int a1, .int (0 : Int32), .int (56 : Int32)]) (rest := []) ⟨hx, hb, hml, hown, hts⟩ (c_Z_indexOfChar l sK sV a1) (va_cwS 4 hts (gS tw_170 tw_171 tw_5 tw_172) rfl rfl rfl (by decide +kernel) ⟨Nat.le_of_ble_eq_true rfl, Nat.le_of_ble_eq_true rfl⟩) ⟨fun _ _ _ _ q => ⟨q.1, q.2.bl⟩, fun U hU hW => ⟨rfl, hE.go hS hU hW⟩⟩ rfl rfl hl.1 rfl (lv_room (Nat.le_of_ble_eq_true rfl)) dZ_indexOf_33 ⟨Nat.le_of_ble_eq_true rfl, Nat.le_of_ble_eq_true rfl⟩) hS (fun H locs hS => ?_)
    exact W.iret (v := (f_Z_indexOfChar a1)) hx hb hr (fun tt ht hW => ⟨⟨(f_Z_indexOfChar a1), (), rfl, (by unfold f_Z_indexOf; rw [if_neg c_1]), trivial⟩, hS.F ht⟩) hS.2.2 dZ_indexOf_36
  · refine lv_iconst (v := (-1 : Int32)) hx hb dZ_indexOf_7 (by decide) ?_
    exact W.iret (v := (-1 : Int32)) hx hb hr (fun tt ht hW => ⟨⟨(-1 : Int32), (), rfl, (by unfold f_Z_indexOf; rw [if_pos c_1]), trivial⟩, hS.F ht⟩) hS.2.2 dZ_indexOf_8

set_option maxHeartbeats 4000000 in
set_option maxRecDepth 100000 in
theorem c_S_indexOf2 (l : Launch) (sK sV : Nat) (a1 : Int32) : Met l yS_indexOf2 wsS_indexOf2 ({ frames := 2, cells := 0, slots := 0, locals := 48 }) (va_Pc [.ref sK, .int a1, .int (0 : Int32)] (fun U => sOK sK sV (fun _ => False) U U.heap)) (va_Qi (fun (r : Int32) (_ : Unit) => r = f_S_indexOf2 a1) (fun _ _ => True) (fun _ => False)) 0 0 (fun _ => False) := by
  refine Met.ofW (cc := prog_6_method_80_code) (maxL := 3) (ret := (some .int)) (by decide) rfl ?_
  intro p e s m args below meth c s₁ B hml hv
  obtain ⟨rfl, hE⟩ := hv
  have hx := B.exec
  have hb := B.bytes
  have hr := B.returns
  have hts := fun (w : Cond) (h : w ∈ gw) => atoms_spec (ws := wsS_indexOf2) B.pre w (List.mem_cons_of_mem _ h)
  have hown : s.vm.findClass RS = some m.cls := findClass_of_methodNamed B.named
  have hlocks := B.notSynchronized
  have hS : va_S (fun _ => False) s.heap s.heap [] := va_S.rf
  have hl := lv_entry ([.ref sK, .int a1, .int (0 : Int32)]) (n := 3) (Nat.le_of_ble_eq_true rfl)
  rw [lg_entry_eq]
  generalize (lg_sl ([.ref sK, .int a1, .int (0 : Int32)]) ++ List.replicate (3 - (lg_sl ([.ref sK, .int a1, .int (0 : Int32)])).length) Slot.unset).toArray = ls at hl ⊢
  have hl : lv_has ls 3 [(0, .ref sK), (1, .int a1), (2, .int (0 : Int32))] := hl
  refine lv_aload_n hx hb dS_indexOf2_0 rfl (lv_at hl 0 rfl) ?_
  refine kk_call0 (va_runV (As := []) (rest := []) ⟨hx, hb, hml, hown, hts⟩ (c_S_isLatin1 l sK sV ) (cwV 0 hts (gV tw_109 tw_110 tw_111 tw_4 tw_112) rfl rfl rfl (by decide +kernel) ⟨Nat.le_of_ble_eq_true rfl, Nat.le_of_ble_eq_true rfl⟩) ⟨fun _ _ _ _ q => ⟨q.1, q.2.bl⟩, (hE.rc hS), fun U hU hW => ⟨rfl, hE.go hS hU hW⟩⟩ rfl rfl hl.1 rfl (lv_room (Nat.le_of_ble_eq_true rfl)) dS_indexOf2_1 ⟨Nat.le_of_ble_eq_true rfl, Nat.le_of_ble_eq_true rfl⟩) hS (fun H locs hS => ?_)
  refine lv_if_eq (tgt := 23) hx hb dS_indexOf2_4 (by decide) (fun c0 => absurd c0 (by decide)) (fun _ => ?_)
  refine lv_aload_n hx hb dS_indexOf2_7 rfl (lv_at hl 0 rfl) ?_
  refine vk_getf (v := .ref sV) hx hb hE.2.2.1 hS hown (hts _ tw_289) (fun _ h9 => h9) dS_indexOf2_8 ?_
  refine lv_iload_n hx hb dS_indexOf2_11 rfl (lv_at hl 1 rfl) ?_
  refine lv_iload_n hx hb dS_indexOf2_12 rfl (lv_at hl 2 rfl) ?_
  refine lv_aload_n hx hb dS_indexOf2_13 rfl (lv_at hl 0 rfl) ?_
  refine kk_call0 (va_runV (As := []) (rest := [.int (0 : Int32), .int a1, .ref sV]) ⟨hx, hb, hml, hown, hts⟩ (c_S_length l sK sV ) (cwV 0 hts (gV tw_159 tw_96 tw_97 tw_4 tw_98) rfl rfl rfl (by decide +kernel) ⟨Nat.le_of_ble_eq_true rfl, Nat.le_of_ble_eq_true rfl⟩) ⟨fun _ _ _ _ q => ⟨q.1, q.2.bl⟩, (hE.rc hS), fun U hU hW => ⟨rfl, hE.go hS hU hW⟩⟩ rfl rfl hl.1 rfl (lv_room (Nat.le_of_ble_eq_true rfl)) dS_indexOf2_14 ⟨Nat.le_of_ble_eq_true rfl, Nat.le_of_ble_eq_true rfl⟩) hS (fun H locs hS => ?_)
  refine kk_call0 (va_runS (As := [.ref sV, .int a1, .int (0 : Int32), .int (56 : Int32)]) (rest := []) ⟨hx, hb, hml, hown, hts⟩ (c_Z_indexOf l sK sV a1) (va_cwS 4 hts (gS tw_160 tw_161 tw_5 tw_162) rfl rfl rfl (by decide +kernel) ⟨Nat.le_of_ble_eq_true rfl, Nat.le_of_ble_eq_true rfl⟩) ⟨fun _ _ _ _ q => ⟨q.1, q.2.bl⟩, fun U hU hW => ⟨rfl, hE.go hS hU hW⟩⟩ rfl rfl hl.1 rfl (lv_room (Nat.le_of_ble_eq_true rfl)) dS_indexOf2_17 ⟨Nat.le_of_ble_eq_true rfl, Nat.le_of_ble_eq_true rfl⟩) hS (fun H locs hS => ?_)
  refine lv_goto (tgt := 36) hx hb dS_indexOf2_20 (by decide) ?_
  exact W.iret (v := (f_Z_indexOf a1)) hx hb hr (fun tt ht hW => ⟨⟨(f_Z_indexOf a1), (), rfl, (by rfl), trivial⟩, hS.F ht⟩) hS.2.2 dS_indexOf2_36

set_option maxHeartbeats 4000000 in
set_option maxRecDepth 100000 in
theorem c_S_indexOf (l : Launch) (sK sV : Nat) (a1 : Int32) : Met l yS_indexOf wsS_indexOf ({ frames := 3, cells := 0, slots := 0, locals := 70 }) (va_Pc [.ref sK, .int a1] (fun U => sOK sK sV (fun _ => False) U U.heap)) (va_Qi (fun (r : Int32) (_ : Unit) => r = f_S_indexOf a1) (fun _ _ => True) (fun _ => False)) 0 0 (fun _ => False) := by
  refine Met.ofW (cc := prog_6_method_79_code) (maxL := 2) (ret := (some .int)) (by decide) rfl ?_
  intro p e s m args below meth c s₁ B hml hv
  obtain ⟨rfl, hE⟩ := hv
  have hx := B.exec
  have hb := B.bytes
  have hr := B.returns
  have hts := fun (w : Cond) (h : w ∈ gw) => atoms_spec (ws := wsS_indexOf) B.pre w (List.mem_cons_of_mem _ h)
  have hown : s.vm.findClass RS = some m.cls := findClass_of_methodNamed B.named
  have hlocks := B.notSynchronized
  have hS : va_S (fun _ => False) s.heap s.heap [] := va_S.rf
  have hl := lv_entry ([.ref sK, .int a1]) (n := 2) (Nat.le_of_ble_eq_true rfl)
  rw [lg_entry_eq]
  generalize (lg_sl ([.ref sK, .int a1]) ++ List.replicate (2 - (lg_sl ([.ref sK, .int a1])).length) Slot.unset).toArray = ls at hl ⊢
  have hl : lv_has ls 2 [(0, .ref sK), (1, .int a1)] := hl
  refine lv_aload_n hx hb dS_indexOf_0 rfl (lv_at hl 0 rfl) ?_
  refine lv_iload_n hx hb dS_indexOf_1 rfl (lv_at hl 1 rfl) ?_
  refine lv_iconst (v := (0 : Int32)) hx hb dS_indexOf_2 (by decide) ?_
  refine kk_call0 (va_runV (As := [.int a1, .int (0 : Int32)]) (rest := []) ⟨hx, hb, hml, hown, hts⟩ (c_S_indexOf2 l sK sV a1) (cwV 2 hts (gV tw_155 tw_156 tw_157 tw_4 tw_158) rfl rfl rfl (by decide +kernel) ⟨Nat.le_of_ble_eq_true rfl, Nat.le_of_ble_eq_true rfl⟩) ⟨fun _ _ _ _ q => ⟨q.1, q.2.bl⟩, (hE.rc hS), fun U hU hW => ⟨rfl, hE.go hS hU hW⟩⟩ rfl rfl hl.1 rfl (lv_room (Nat.le_of_ble_eq_true rfl)) dS_indexOf_3 ⟨Nat.le_of_ble_eq_true rfl, Nat.le_of_ble_eq_true rfl⟩) hS (fun H locs hS => ?_)
  exact W.iret (v := (f_S_indexOf2 a1)) hx hb hr (fun tt ht hW => ⟨⟨(f_S_indexOf2 a1), (), rfl, (by rfl), trivial⟩, hS.F ht⟩) hS.2.2 dS_indexOf_6

set_option maxHeartbeats 4000000 in
set_option maxRecDepth 100000 in
theorem c_F_letter (l : Launch) (h0 sK sV : Nat) (a1 : Int32) : Met l yF_letter wsF_letter ({ frames := 4, cells := 0, slots := 0, locals := 85 }) (va_Pc [.ref h0, .int a1] (fun U => sOK sK sV (fun _ => False) U U.heap)) (va_Qi (fun (r : Int32) (_ : Unit) => r = f_F_letter a1) (fun _ _ => True) (fun _ => False)) 0 0 (fun _ => False) := by
  refine Met.ofW (cc := prog_1_method_10_code) (maxL := 2) (ret := (some .int)) (by decide) rfl ?_
  intro p e s m args below meth c s₁ B hml hv
  obtain ⟨rfl, hE⟩ := hv
  have hx := B.exec
  have hb := B.bytes
  have hr := B.returns
  have hts := fun (w : Cond) (h : w ∈ gw) => atoms_spec (ws := wsF_letter) B.pre w (List.mem_cons_of_mem _ h)
  have hown : s.vm.findClass RF = some m.cls := findClass_of_methodNamed B.named
  have hlocks := B.notSynchronized
  have hS : va_S (fun _ => False) s.heap s.heap [] := va_S.rf
  have hl := lv_entry ([.ref h0, .int a1]) (n := 2) (Nat.le_of_ble_eq_true rfl)
  rw [lg_entry_eq]
  generalize (lg_sl ([.ref h0, .int a1]) ++ List.replicate (2 - (lg_sl ([.ref h0, .int a1])).length) Slot.unset).toArray = ls at hl ⊢
  have hl : lv_has ls 2 [(0, .ref h0), (1, .int a1)] := hl
  refine lv_iload_n hx hb dF_letter_0 rfl (lv_at hl 1 rfl) ?_
  refine lv_if_lt (tgt := 10) hx hb dF_letter_1 (by decide) (fun c_1 => ?_) (fun c_1 => ?_)
  · refine lv_iconst (v := (-1 : Int32)) hx hb dF_letter_10 (by decide) ?_
    exact W.iret (v := (-1 : Int32)) hx hb hr (fun tt ht hW => ⟨⟨(-1 : Int32), (), rfl, (by unfold f_F_letter; rw [if_pos c_1]), trivial⟩, hS.F ht⟩) hS.2.2 dF_letter_11
  · refine lv_iload_n hx hb dF_letter_4 rfl (lv_at hl 1 rfl) ?_
    refine lv_bipush (v := (63 : Int32)) hx hb dF_letter_5 (by decide) ?_
    refine lv_icmp_le (tgt := 12) hx hb dF_letter_7 (by decide) (fun c_2 => ?_) (fun c_2 => ?_)
    · refine lv_iload_n hx hb dF_letter_12 rfl (lv_at hl 1 rfl) ?_
      refine va_ldcS hx hb hown hE.2.2.2.2.2.2 dF_letter_13 ?_
      refine kk_call0 (va_runV (As := []) (rest := [.int a1]) ⟨hx, hb, hml, hown, hts⟩ (c_S_length l sK sV ) (cwV 0 hts (gV tw_95 tw_96 tw_97 tw_4 tw_98) rfl rfl rfl (by decide +kernel) ⟨Nat.le_of_ble_eq_true rfl, Nat.le_of_ble_eq_true rfl⟩) ⟨fun _ _ _ _ q => ⟨q.1, q.2.bl⟩, (hE.rc hS), fun U hU hW => ⟨rfl, hE.go hS hU hW⟩⟩ rfl rfl hl.1 rfl (lv_room (Nat.le_of_ble_eq_true rfl)) dF_letter_15 ⟨Nat.le_of_ble_eq_true rfl, Nat.le_of_ble_eq_true rfl⟩) hS (fun H locs hS => ?_)
      refine lv_icmp_ge (tgt := 30) hx hb dF_letter_18 (by decide) (fun c_3 => ?_) (fun c_3 => ?_)
      · refine lv_bipush (v := (63 : Int32)) hx hb dF_letter_30 (by decide) ?_
        exact W.iret (v := (63 : Int32)) hx hb hr (fun tt ht hW => ⟨⟨(63 : Int32), (), rfl, (by unfold f_F_letter; rw [if_neg c_1, if_pos c_2, if_pos c_3]), trivial⟩, hS.F ht⟩) hS.2.2 dF_letter_32
      · refine va_ldcS hx hb hown hE.2.2.2.2.2.2 dF_letter_21 ?_
        refine lv_iload_n hx hb dF_letter_23 rfl (lv_at hl 1 rfl) ?_
        refine kk_call0 (va_runV (As := [.int a1]) (rest := []) ⟨hx, hb, hml, hown, hts⟩ (c_S_charAt l sK sV a1 (in_56 c_1 c_3)) (cwV 1 hts (gV tw_105 tw_106 tw_107 tw_4 tw_108) rfl rfl rfl (by decide +kernel) ⟨Nat.le_of_ble_eq_true rfl, Nat.le_of_ble_eq_true rfl⟩) ⟨fun _ _ _ _ q => ⟨q.1, q.2.bl⟩, (hE.rc hS), fun U hU hW => ⟨rfl, hE.go hS hU hW⟩⟩ rfl rfl hl.1 rfl (lv_room (Nat.le_of_ble_eq_true rfl)) dF_letter_24 ⟨Nat.le_of_ble_eq_true rfl, Nat.le_of_ble_eq_true rfl⟩) hS (fun H locs hS => ?_)
        refine lv_goto (tgt := 32) hx hb dF_letter_27 (by decide) ?_
        exact W.iret (v := (f_S_charAt a1)) hx hb hr (fun tt ht hW => ⟨⟨(f_S_charAt a1), (), rfl, (by unfold f_F_letter; rw [if_neg c_1, if_pos c_2, if_neg c_3]), trivial⟩, hS.F ht⟩) hS.2.2 dF_letter_32
    · refine lv_iconst (v := (-1 : Int32)) hx hb dF_letter_10 (by decide) ?_
      exact W.iret (v := (-1 : Int32)) hx hb hr (fun tt ht hW => ⟨⟨(-1 : Int32), (), rfl, (by unfold f_F_letter; rw [if_neg c_1, if_neg c_2]), trivial⟩, hS.F ht⟩) hS.2.2 dF_letter_11

set_option maxHeartbeats 4000000 in
set_option maxRecDepth 100000 in
theorem c_F_code (l : Launch) (h0 sK sV : Nat) (a1 : Int32) : Met l yF_code wsF_code ({ frames := 4, cells := 0, slots := 0, locals := 91 }) (va_Pc [.ref h0, .int a1] (fun U => sOK sK sV (fun _ => False) U U.heap)) (va_Qi (fun (r : Int32) (_ : Unit) => r = f_F_code a1) (fun _ _ => True) (fun _ => False)) 0 0 (fun _ => False) := by
  refine Met.ofW (cc := prog_1_method_11_code) (maxL := 3) (ret := (some .int)) (by decide) rfl ?_
  intro p e s m args below meth c s₁ B hml hv
  obtain ⟨rfl, hE⟩ := hv
  have hx := B.exec
  have hb := B.bytes
  have hr := B.returns
  have hts := fun (w : Cond) (h : w ∈ gw) => atoms_spec (ws := wsF_code) B.pre w (List.mem_cons_of_mem _ h)
  have hown : s.vm.findClass RF = some m.cls := findClass_of_methodNamed B.named
  have hlocks := B.notSynchronized
  have hS : va_S (fun _ => False) s.heap s.heap [] := va_S.rf
  have hl := lv_entry ([.ref h0, .int a1]) (n := 3) (Nat.le_of_ble_eq_true rfl)
  rw [lg_entry_eq]
  generalize (lg_sl ([.ref h0, .int a1]) ++ List.replicate (3 - (lg_sl ([.ref h0, .int a1])).length) Slot.unset).toArray = ls at hl ⊢
  have hl : lv_has ls 3 [(0, .ref h0), (1, .int a1)] := hl
  refine lv_iload_n hx hb dF_code_0 rfl (lv_at hl 1 rfl) ?_
  refine lv_if_lt (tgt := 11) hx hb dF_code_1 (by decide) (fun c_1 => ?_) (fun c_1 => ?_)
  · refine lv_iconst (v := (-1 : Int32)) hx hb dF_code_11 (by decide) ?_
    exact W.iret (v := (-1 : Int32)) hx hb hr (fun tt ht hW => ⟨⟨(-1 : Int32), (), rfl, (by unfold f_F_code; rw [if_pos c_1]), trivial⟩, hS.F ht⟩) hS.2.2 dF_code_12
  · refine lv_iload_n hx hb dF_code_4 rfl (lv_at hl 1 rfl) ?_
    refine lv_sipush (v := (255 : Int32)) hx hb dF_code_5 (by decide) ?_
    refine lv_icmp_le (tgt := 13) hx hb dF_code_8 (by decide) (fun c_2 => ?_) (fun c_2 => ?_)
    · refine va_ldcS hx hb hown hE.2.2.2.2.2.2 dF_code_13 ?_
      refine lv_iload_n hx hb dF_code_15 rfl (lv_at hl 1 rfl) ?_
      refine kk_call0 (va_runS (As := [.int a1]) (rest := [.ref sK]) ⟨hx, hb, hml, hown, hts⟩ (c_F_greatLetter l a1) (va_cwS 1 hts (gS tw_148 tw_149 tw_1 tw_150) rfl rfl rfl (by decide +kernel) ⟨Nat.le_of_ble_eq_true rfl, Nat.le_of_ble_eq_true rfl⟩) ⟨fun _ _ _ _ q => q, fun _ _ _ => ⟨rfl, trivial⟩⟩ rfl rfl hl.1 rfl (lv_room (Nat.le_of_ble_eq_true rfl)) dF_code_16 ⟨Nat.le_of_ble_eq_true rfl, Nat.le_of_ble_eq_true rfl⟩) hS (fun H locs hS => ?_)
      refine lv_i2c hx hb dF_code_19 rfl ?_
      refine kk_call0 (va_runV (As := [.int ((f_F_greatLetter a1).toUInt32 % 65536).toInt32]) (rest := []) ⟨hx, hb, hml, hown, hts⟩ (c_S_indexOf l sK sV ((f_F_greatLetter a1).toUInt32 % 65536).toInt32) (cwV 1 hts (gV tw_151 tw_152 tw_153 tw_4 tw_154) rfl rfl rfl (by decide +kernel) ⟨Nat.le_of_ble_eq_true rfl, Nat.le_of_ble_eq_true rfl⟩) ⟨fun _ _ _ _ q => ⟨q.1, q.2.bl⟩, (hE.rc hS), fun U hU hW => ⟨rfl, hE.go hS hU hW⟩⟩ rfl rfl hl.1 rfl (lv_room (Nat.le_of_ble_eq_true rfl)) dF_code_20 ⟨Nat.le_of_ble_eq_true rfl, Nat.le_of_ble_eq_true rfl⟩) hS (fun H locs hS => ?_)
      refine lv_topi (fun x_3 ex_3 => ?_)
      refine lv_istore_n (lv' := [(2, .int x_3), (0, .ref h0), (1, .int a1)]) hx hb dF_code_23 rfl hl (by decide) rfl (fun ls hl => ?_)
      refine lv_iload_n hx hb dF_code_24 rfl (lv_at hl 0 rfl) ?_
      refine lv_if_ge (tgt := 32) hx hb dF_code_25 (by decide) (fun c_4 => ?_) (fun c_4 => ?_)
      · refine lv_iload_n hx hb dF_code_32 rfl (lv_at hl 0 rfl) ?_
        exact W.iret (v := x_3) hx hb hr (fun tt ht hW => ⟨⟨x_3, (), rfl, (by subst ex_3; unfold f_F_code; rw [if_neg c_1, if_pos c_2, if_pos c_4]), trivial⟩, hS.F ht⟩) hS.2.2 dF_code_33
      · refine lv_iconst (v := (0 : Int32)) hx hb dF_code_28 (by decide) ?_
        refine lv_goto (tgt := 33) hx hb dF_code_29 (by decide) ?_
        exact W.iret (v := (0 : Int32)) hx hb hr (fun tt ht hW => ⟨⟨(0 : Int32), (), rfl, (by subst ex_3; unfold f_F_code; rw [if_neg c_1, if_pos c_2, if_neg c_4]), trivial⟩, hS.F ht⟩) hS.2.2 dF_code_33
    · refine lv_iconst (v := (-1 : Int32)) hx hb dF_code_11 (by decide) ?_
      exact W.iret (v := (-1 : Int32)) hx hb hr (fun tt ht hW => ⟨⟨(-1 : Int32), (), rfl, (by unfold f_F_code; rw [if_neg c_1, if_neg c_2]), trivial⟩, hS.F ht⟩) hS.2.2 dF_code_12
