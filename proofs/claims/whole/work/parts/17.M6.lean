set_option maxHeartbeats 4000000 in
set_option maxRecDepth 100000 in
theorem c_M_code (l : Launch) (dC : Nat → ClassId) (dI : Nat → Nat → Nat) (h0 q1 q2 q3 q4 : Nat) (k1 k2 k3 k4 : ClassId) (g b t w : Nat → Int32) (a1 : Int32) : Met l yM_code wsM_code ({ frames := 0, cells := 0, slots := 0, locals := 0 }) (va_Pc [.ref h0, .int a1] (fun U => va_P (dC, dI) vwCl (wsM h0 q1 q2 q3 q4 k1 k2 k3 k4 g b t w) U.heap ∧ va_K (dC, dI) vwCl [(k1, .boolean), (k2, .int), (k3, .int), (k4, .int)] U)) (va_Qi (fun (r : Int32) (_ : Unit) => r = f_M_code g b t w a1) (fun _ _ => True) (fun _ => False)) 0 0 (fun _ => False) := by
  refine Met.ofW (cc := prog_3_method_17_code) (maxL := 5) (ret := (some .int)) (by decide) rfl ?_
  intro p e s m args below meth c s₁ B hml hv
  obtain ⟨rfl, hP, hK⟩ := hv
  have hx := B.exec
  have hb := B.bytes
  have hr := B.returns
  have hts := fun (w : Cond) (h : w ∈ gw) => atoms_spec (ws := wsM_code) B.pre w (List.mem_cons_of_mem _ h)
  have hown : s.vm.findClass RM = some m.cls := findClass_of_methodNamed B.named
  have hlocks := B.notSynchronized
  have hS : va_S (fun _ => False) s.heap s.heap [] := va_S.rf
  have hl := lv_entry ([.ref h0, .int a1]) (n := 5) (Nat.le_of_ble_eq_true rfl)
  rw [lg_entry_eq]
  generalize (lg_sl ([.ref h0, .int a1]) ++ List.replicate (5 - (lg_sl ([.ref h0, .int a1])).length) Slot.unset).toArray = ls at hl ⊢
  have hl : lv_has ls 5 [(0, .ref h0), (1, .int a1)] := hl
  refine lv_iload_n hx hb dM_code_0 rfl (lv_at hl 1 rfl) ?_
  refine lv_if_lt (tgt := 11) hx hb dM_code_1 (by decide) (fun c_1 => ?_) (fun c_1 => ?_)
  · refine lv_iconst (v := (-1 : Int32)) hx hb dM_code_11 (by decide) ?_
    exact W.iret (v := (-1 : Int32)) hx hb hr (fun tt ht hW => ⟨⟨(-1 : Int32), (), rfl, (by unfold f_M_code; rw [if_pos c_1]), trivial⟩, hS.F ht⟩) hS.2.2 dM_code_12
  · refine lv_iload_n hx hb dM_code_4 rfl (lv_at hl 1 rfl) ?_
    refine lv_sipush (v := (255 : Int32)) hx hb dM_code_5 (by decide) ?_
    refine lv_icmp_le (tgt := 13) hx hb dM_code_8 (by decide) (fun c_2 => ?_) (fun c_2 => ?_)
    · refine kk_mrg (pc' := 33) (ls' := ls) (rest' := []) (x := (if a1 < (97 : Int32) then a1 else (if (122 : Int32) < a1 then a1 else (a1 - (32 : Int32))))) (fun hk_3 => ?_) (fun v_6 ev_6 => ?_)
      · refine lv_iload_n hx hb dM_code_13 rfl (lv_at hl 1 rfl) ?_
        refine lv_bipush (v := (97 : Int32)) hx hb dM_code_14 (by decide) ?_
        refine lv_icmp_lt (tgt := 32) hx hb dM_code_16 (by decide) (fun c_4 => ?_) (fun c_4 => ?_)
        · refine lv_iload_n hx hb dM_code_32 rfl (lv_at hl 1 rfl) ?_
          exact hk_3 _ (by rw [if_pos c_4])
        · refine lv_iload_n hx hb dM_code_19 rfl (lv_at hl 1 rfl) ?_
          refine lv_bipush (v := (122 : Int32)) hx hb dM_code_20 (by decide) ?_
          refine lv_icmp_gt (tgt := 32) hx hb dM_code_22 (by decide) (fun c_5 => ?_) (fun c_5 => ?_)
          · refine lv_iload_n hx hb dM_code_32 rfl (lv_at hl 1 rfl) ?_
            exact hk_3 _ (by rw [if_neg c_4, if_pos c_5])
          · refine lv_iload_n hx hb dM_code_25 rfl (lv_at hl 1 rfl) ?_
            refine lv_bipush (v := (32 : Int32)) hx hb dM_code_26 (by decide) ?_
            refine lv_isub hx hb dM_code_28 ?_
            refine lv_goto (tgt := 33) hx hb dM_code_29 (by decide) ?_
            exact hk_3 _ (by rw [if_neg c_4, if_neg c_5])
      refine lv_istore_n (lv' := [(2, .int v_6), (0, .ref h0), (1, .int a1)]) hx hb dM_code_33 rfl hl (by decide) rfl (fun ls hl => ?_)
      refine lv_iconst (v := (0 : Int32)) hx hb dM_code_34 (by decide) ?_
      refine lv_istore_n (lv' := [(3, .int (0 : Int32)), (2, .int v_6), (0, .ref h0), (1, .int a1)]) hx hb dM_code_35 rfl hl (by decide) rfl (fun ls hl => ?_)
      refine lv_iconst (v := (0 : Int32)) hx hb dM_code_36 (by decide) ?_
      refine lv_istore (lv' := [(4, .int (0 : Int32)), (3, .int (0 : Int32)), (2, .int v_6), (0, .ref h0), (1, .int a1)]) hx hb dM_code_37 hl (by decide) rfl (fun ls hl => ?_)
      refine kk_ind (I := fun k fd ls => fd = cdS t v_6 k ∧ lv_has ls 5 [(4, .int (nI k)), (3, .int fd), (2, .int v_6), (0, .ref h0), (1, .int a1)]) 56 (fun k fd ls hk hI ih => ?_) 0 (0 : Int32) ls (by decide) ⟨rfl, hl⟩
      obtain ⟨efd, hl⟩ := hI
      refine lv_iload hx hb dM_code_39 (lv_at hl 0 rfl) ?_
      refine lv_bipush (v := (56 : Int32)) hx hb dM_code_41 (by decide) ?_
      refine lv_icmp_ge (tgt := 70) hx hb dM_code_43 (by decide) (fun c_7 => ?_) (fun c_7 => ?_)
      · refine lv_iload_n hx hb dM_code_70 rfl (lv_at hl 1 rfl) ?_
        exact W.iret (v := fd) hx hb hr (fun tt ht hW => ⟨⟨fd, (), rfl, (by rw [efd, eq_56 hk c_7, ev_6]; unfold f_M_code; rw [if_neg c_1, if_pos c_2]), trivial⟩, hS.F ht⟩) hS.2.2 dM_code_71
      · refine lv_aload_n hx hb dM_code_46 rfl (lv_at hl 3 rfl) ?_
        refine va_get (D := (dC, dI)) (ci := 1) (v := .ref q3) (C := RM) (T := TM) (N := 4) hx hb hts iM hown hK hP 0 rfl rfl 2 (by decide) (hts _ tw_216) (fun _ h9 => h9) rfl dM_code_47 ?_
        refine lv_iload hx hb dM_code_50 (lv_at hl 0 rfl) ?_
        refine va_iald hx hb hK hP 3 2 rfl rfl (vp_in_nI (lt_56 hk c_7) (by decide)) dM_code_52 ?_
        refine kk_top (y := (t k)) (by rw [nI_clamp (by omega)]) ?_
        refine lv_iload_n hx hb dM_code_53 rfl (lv_at hl 2 rfl) ?_
        refine kk_mrg (pc' := 63) (ls' := ls) (rest' := []) (x := (if (t k) = v_6 then (nI k) else fd)) (fun hk_8 => ?_) (fun v_10 ev_10 => ?_)
        · refine lv_icmp_ne (tgt := 62) hx hb dM_code_54 (by decide) (fun c_9 => ?_) (fun c_9 => ?_)
          · refine lv_iload_n hx hb dM_code_62 rfl (lv_at hl 1 rfl) ?_
            exact hk_8 _ (by rw [if_neg c_9])
          · refine lv_iload hx hb dM_code_57 (lv_at hl 0 rfl) ?_
            refine lv_goto (tgt := 63) hx hb dM_code_59 (by decide) ?_
            exact hk_8 _ (by rw [if_pos c_9])
        refine lv_istore_n (lv' := [(3, .int v_10), (4, .int (nI k)), (2, .int v_6), (0, .ref h0), (1, .int a1)]) hx hb dM_code_63 rfl hl (by decide) rfl (fun ls hl => ?_)
        refine lv_iinc (v := (nI (k + 1))) (lv' := [(4, .int (nI (k + 1))), (3, .int v_10), (2, .int v_6), (0, .ref h0), (1, .int a1)]) hx hb dM_code_64 hl (k := 1) rfl (nI_1 k) (by decide) rfl (fun ls hl => ?_)
        refine lv_goto (tgt := 39) hx hb dM_code_67 (by decide) ?_
        exact ih _ ls (lt_56 hk c_7) ⟨by rw [ev_10, efd]; rfl, lv_sub hl [0, 1, 2, 3, 4] rfl⟩
    · refine lv_iconst (v := (-1 : Int32)) hx hb dM_code_11 (by decide) ?_
      exact W.iret (v := (-1 : Int32)) hx hb hr (fun tt ht hW => ⟨⟨(-1 : Int32), (), rfl, (by unfold f_M_code; rw [if_neg c_1, if_neg c_2]), trivial⟩, hS.F ht⟩) hS.2.2 dM_code_12
