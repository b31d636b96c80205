def vz6 : List Value := [.null, .null, .null, .null, .int 0, .null, .null, .null, .null, .int 0, .null, .null, .int 0, .null, .int 0, .int 0, .int 0, .null, .null, .int 0, .int 0, .int 0, .int 0, .int 0, .int 0]
def st0 : hSt := ((0, 3, fun _ => 0, fun _ => []), (0, fun _ => (0, 0, fun _ => 0, fun _ => [])), fun _ => none, [])
theorem okS_0 : okS st0 := ⟨⟨by decide, by decide, fun _ _ => Nat.zero_le _, fun _ _ => Or.inl rfl⟩, by decide, fun i hi => absurd hi (Nat.not_lt_zero _), fun s τ _ h => (by cases h), by decide, fun c hc => absurd hc List.not_mem_nil⟩
set_option maxHeartbeats 4000000 in
set_option maxRecDepth 100000 in
theorem c_X6_init (K : hKv) (M : hM) (h : Nat) (Hh : M h = some (100, eO 6 vz6)) : hC K Y_X6_init rm_X6_init [.ref h] M (hPv fun M' => ∃ A : Nat → Nat, A 0 = h ∧ mP K A M st0 M') := by
  refine hC.of [some (.ref h)] (by decide) (Nat.le_of_ble_eq_true rfl) rfl rfl ?_
  intro E C Rt
  have C : hCx E K cX6_init 1 RX6 "<init>" rm_X6_init := C
  have fr : hFr 100 200 M M := hFr.rf
  refine x_aload_0 1 C dX6_init_0 rfl ?_
  refine x_objInit 4 C wl_X6_1 dX6_init_1 ⟨Nat.le_of_ble_eq_true rfl, Nat.le_of_ble_eq_true rfl⟩ (Nat.le_of_ble_eq_true rfl) rfl ?_
  refine x_aload_0 5 C dX6_init_4 rfl ?_
  refine x_sipush (v := 728) 8 C dX6_init_5 rfl rfl ?_
  refine x_newaI 10 (728) 101 C rfl (by decide) ⟨Nat.le_of_ble_eq_true rfl, Nat.le_of_ble_eq_true rfl⟩ dX6_init_8 rfl (fun a_now f_a_now => ?_)
  refine x_up (fun M_1 g_1 o_1 e_1 => ?_)
  have fr := fr.tr (M2 := M_1) (by rw [e_1]; exact hFr.new f_a_now)
  have Hh := (o_1 _ (hT_new Hh f_a_now)).trans Hh
  have H_a_now := g_1
  refine xp_X6_now 13 C wf_X6_7 rfl rfl wf0_X6_7 Hh rfl rfl dX6_init_10 rfl ?_
  refine x_up (fun M_2 g_2 o_2 e_2 => ?_)
  have fr := fr.tr (M2 := M_2) (by rw [e_2]; exact hFr.put Hh (by omega))
  have H_a_now := (o_2 _ (hT_ne H_a_now Hh (by omega))).trans H_a_now
  have Hh := g_2
  refine x_aload_0 14 C dX6_init_13 rfl ?_
  refine x_bipush (v := 8) 16 C dX6_init_14 rfl rfl ?_
  refine x_newaJ 18 (8) 102 C rfl (by decide) ⟨Nat.le_of_ble_eq_true rfl, Nat.le_of_ble_eq_true rfl⟩ dX6_init_16 rfl (fun a_cells f_a_cells => ?_)
  refine x_up (fun M_3 g_3 o_3 e_3 => ?_)
  have fr := fr.tr (M2 := M_3) (by rw [e_3]; exact hFr.new f_a_cells)
  have Hh := (o_3 _ (hT_new Hh f_a_cells)).trans Hh
  have H_a_now := (o_3 _ (hT_new H_a_now f_a_cells)).trans H_a_now
  have H_a_cells := g_3
  refine xp_X6_cells 21 C wf_X6_13 rfl rfl wf0_X6_13 Hh rfl rfl dX6_init_18 rfl ?_
  refine x_up (fun M_4 g_4 o_4 e_4 => ?_)
  have fr := fr.tr (M2 := M_4) (by rw [e_4]; exact hFr.put Hh (by omega))
  have H_a_now := (o_4 _ (hT_ne H_a_now Hh (by omega))).trans H_a_now
  have H_a_cells := (o_4 _ (hT_ne H_a_cells Hh (by omega))).trans H_a_cells
  have Hh := g_4
  refine x_aload_0 22 C dX6_init_21 rfl ?_
  refine x_sipush (v := 4368) 25 C dX6_init_22 rfl rfl ?_
  refine x_newaI 27 (4368) 103 C rfl (by decide) ⟨Nat.le_of_ble_eq_true rfl, Nat.le_of_ble_eq_true rfl⟩ dX6_init_25 rfl (fun a_history f_a_history => ?_)
  refine x_up (fun M_5 g_5 o_5 e_5 => ?_)
  have fr := fr.tr (M2 := M_5) (by rw [e_5]; exact hFr.new f_a_history)
  have Hh := (o_5 _ (hT_new Hh f_a_history)).trans Hh
  have H_a_now := (o_5 _ (hT_new H_a_now f_a_history)).trans H_a_now
  have H_a_cells := (o_5 _ (hT_new H_a_cells f_a_history)).trans H_a_cells
  have H_a_history := g_5
  refine xp_X6_history 30 C wf_X6_17 rfl rfl wf0_X6_17 Hh rfl rfl dX6_init_27 rfl ?_
  refine x_up (fun M_6 g_6 o_6 e_6 => ?_)
  have fr := fr.tr (M2 := M_6) (by rw [e_6]; exact hFr.put Hh (by omega))
  have H_a_now := (o_6 _ (hT_ne H_a_now Hh (by omega))).trans H_a_now
  have H_a_cells := (o_6 _ (hT_ne H_a_cells Hh (by omega))).trans H_a_cells
  have H_a_history := (o_6 _ (hT_ne H_a_history Hh (by omega))).trans H_a_history
  have Hh := g_6
  refine x_aload_0 31 C dX6_init_30 rfl ?_
  refine x_bipush (v := 48) 33 C dX6_init_31 rfl rfl ?_
  refine x_newaJ 35 (48) 104 C rfl (by decide) ⟨Nat.le_of_ble_eq_true rfl, Nat.le_of_ble_eq_true rfl⟩ dX6_init_33 rfl (fun a_historyCells f_a_historyCells => ?_)
  refine x_up (fun M_7 g_7 o_7 e_7 => ?_)
  have fr := fr.tr (M2 := M_7) (by rw [e_7]; exact hFr.new f_a_historyCells)
  have Hh := (o_7 _ (hT_new Hh f_a_historyCells)).trans Hh
  have H_a_now := (o_7 _ (hT_new H_a_now f_a_historyCells)).trans H_a_now
  have H_a_cells := (o_7 _ (hT_new H_a_cells f_a_historyCells)).trans H_a_cells
  have H_a_history := (o_7 _ (hT_new H_a_history f_a_historyCells)).trans H_a_history
  have H_a_historyCells := g_7
  refine xp_X6_historyCells 38 C wf_X6_20 rfl rfl wf0_X6_20 Hh rfl rfl dX6_init_35 rfl ?_
  refine x_up (fun M_8 g_8 o_8 e_8 => ?_)
  have fr := fr.tr (M2 := M_8) (by rw [e_8]; exact hFr.put Hh (by omega))
  have H_a_now := (o_8 _ (hT_ne H_a_now Hh (by omega))).trans H_a_now
  have H_a_cells := (o_8 _ (hT_ne H_a_cells Hh (by omega))).trans H_a_cells
  have H_a_history := (o_8 _ (hT_ne H_a_history Hh (by omega))).trans H_a_history
  have H_a_historyCells := (o_8 _ (hT_ne H_a_historyCells Hh (by omega))).trans H_a_historyCells
  have Hh := g_8
  refine x_aload_0 39 C dX6_init_38 rfl ?_
  refine x_sipush (v := 1456) 42 C dX6_init_39 rfl rfl ?_
  refine x_newaI 44 (1456) 105 C rfl (by decide) ⟨Nat.le_of_ble_eq_true rfl, Nat.le_of_ble_eq_true rfl⟩ dX6_init_42 rfl (fun a_saved f_a_saved => ?_)
  refine x_up (fun M_9 g_9 o_9 e_9 => ?_)
  have fr := fr.tr (M2 := M_9) (by rw [e_9]; exact hFr.new f_a_saved)
  have Hh := (o_9 _ (hT_new Hh f_a_saved)).trans Hh
  have H_a_now := (o_9 _ (hT_new H_a_now f_a_saved)).trans H_a_now
  have H_a_cells := (o_9 _ (hT_new H_a_cells f_a_saved)).trans H_a_cells
  have H_a_history := (o_9 _ (hT_new H_a_history f_a_saved)).trans H_a_history
  have H_a_historyCells := (o_9 _ (hT_new H_a_historyCells f_a_saved)).trans H_a_historyCells
  have H_a_saved := g_9
  refine xp_X6_saved 47 C wf_X6_23 rfl rfl wf0_X6_23 Hh rfl rfl dX6_init_44 rfl ?_
  refine x_up (fun M_10 g_10 o_10 e_10 => ?_)
  have fr := fr.tr (M2 := M_10) (by rw [e_10]; exact hFr.put Hh (by omega))
  have H_a_now := (o_10 _ (hT_ne H_a_now Hh (by omega))).trans H_a_now
  have H_a_cells := (o_10 _ (hT_ne H_a_cells Hh (by omega))).trans H_a_cells
  have H_a_history := (o_10 _ (hT_ne H_a_history Hh (by omega))).trans H_a_history
  have H_a_historyCells := (o_10 _ (hT_ne H_a_historyCells Hh (by omega))).trans H_a_historyCells
  have H_a_saved := (o_10 _ (hT_ne H_a_saved Hh (by omega))).trans H_a_saved
  have Hh := g_10
  refine x_aload_0 48 C dX6_init_47 rfl ?_
  refine x_bipush (v := 16) 50 C dX6_init_48 rfl rfl ?_
  refine x_newaJ 52 (16) 106 C rfl (by decide) ⟨Nat.le_of_ble_eq_true rfl, Nat.le_of_ble_eq_true rfl⟩ dX6_init_50 rfl (fun a_savedCells f_a_savedCells => ?_)
  refine x_up (fun M_11 g_11 o_11 e_11 => ?_)
  have fr := fr.tr (M2 := M_11) (by rw [e_11]; exact hFr.new f_a_savedCells)
  have Hh := (o_11 _ (hT_new Hh f_a_savedCells)).trans Hh
  have H_a_now := (o_11 _ (hT_new H_a_now f_a_savedCells)).trans H_a_now
  have H_a_cells := (o_11 _ (hT_new H_a_cells f_a_savedCells)).trans H_a_cells
  have H_a_history := (o_11 _ (hT_new H_a_history f_a_savedCells)).trans H_a_history
  have H_a_historyCells := (o_11 _ (hT_new H_a_historyCells f_a_savedCells)).trans H_a_historyCells
  have H_a_saved := (o_11 _ (hT_new H_a_saved f_a_savedCells)).trans H_a_saved
  have H_a_savedCells := g_11
  refine xp_X6_savedCells 55 C wf_X6_26 rfl rfl wf0_X6_26 Hh rfl rfl dX6_init_52 rfl ?_
  refine x_up (fun M_12 g_12 o_12 e_12 => ?_)
  have fr := fr.tr (M2 := M_12) (by rw [e_12]; exact hFr.put Hh (by omega))
  have H_a_now := (o_12 _ (hT_ne H_a_now Hh (by omega))).trans H_a_now
  have H_a_cells := (o_12 _ (hT_ne H_a_cells Hh (by omega))).trans H_a_cells
  have H_a_history := (o_12 _ (hT_ne H_a_history Hh (by omega))).trans H_a_history
  have H_a_historyCells := (o_12 _ (hT_ne H_a_historyCells Hh (by omega))).trans H_a_historyCells
  have H_a_saved := (o_12 _ (hT_ne H_a_saved Hh (by omega))).trans H_a_saved
  have H_a_savedCells := (o_12 _ (hT_ne H_a_savedCells Hh (by omega))).trans H_a_savedCells
  have Hh := g_12
  refine x_aload_0 56 C dX6_init_55 rfl ?_
  refine x_iconst (v := 2) 57 C dX6_init_56 rfl rfl ?_
  refine x_newaZ 59 (2) 107 C rfl (by decide) ⟨Nat.le_of_ble_eq_true rfl, Nat.le_of_ble_eq_true rfl⟩ dX6_init_57 rfl (fun a_isSaved f_a_isSaved => ?_)
  refine x_up (fun M_13 g_13 o_13 e_13 => ?_)
  have fr := fr.tr (M2 := M_13) (by rw [e_13]; exact hFr.new f_a_isSaved)
  have Hh := (o_13 _ (hT_new Hh f_a_isSaved)).trans Hh
  have H_a_now := (o_13 _ (hT_new H_a_now f_a_isSaved)).trans H_a_now
  have H_a_cells := (o_13 _ (hT_new H_a_cells f_a_isSaved)).trans H_a_cells
  have H_a_history := (o_13 _ (hT_new H_a_history f_a_isSaved)).trans H_a_history
  have H_a_historyCells := (o_13 _ (hT_new H_a_historyCells f_a_isSaved)).trans H_a_historyCells
  have H_a_saved := (o_13 _ (hT_new H_a_saved f_a_isSaved)).trans H_a_saved
  have H_a_savedCells := (o_13 _ (hT_new H_a_savedCells f_a_isSaved)).trans H_a_savedCells
  have H_a_isSaved := g_13
  refine xp_X6_isSaved 62 C wf_X6_29 rfl rfl wf0_X6_29 Hh rfl rfl dX6_init_59 rfl ?_
  refine x_up (fun M_14 g_14 o_14 e_14 => ?_)
  have fr := fr.tr (M2 := M_14) (by rw [e_14]; exact hFr.put Hh (by omega))
  have H_a_now := (o_14 _ (hT_ne H_a_now Hh (by omega))).trans H_a_now
  have H_a_cells := (o_14 _ (hT_ne H_a_cells Hh (by omega))).trans H_a_cells
  have H_a_history := (o_14 _ (hT_ne H_a_history Hh (by omega))).trans H_a_history
  have H_a_historyCells := (o_14 _ (hT_ne H_a_historyCells Hh (by omega))).trans H_a_historyCells
  have H_a_saved := (o_14 _ (hT_ne H_a_saved Hh (by omega))).trans H_a_saved
  have H_a_savedCells := (o_14 _ (hT_ne H_a_savedCells Hh (by omega))).trans H_a_savedCells
  have H_a_isSaved := (o_14 _ (hT_ne H_a_isSaved Hh (by omega))).trans H_a_isSaved
  have Hh := g_14
  refine x_aload_0 63 C dX6_init_62 rfl ?_
  refine x_bipush (v := 60) 65 C dX6_init_63 rfl rfl ?_
  refine x_newaI 67 (60) 108 C rfl (by decide) ⟨Nat.le_of_ble_eq_true rfl, Nat.le_of_ble_eq_true rfl⟩ dX6_init_65 rfl (fun a_pad f_a_pad => ?_)
  refine x_up (fun M_15 g_15 o_15 e_15 => ?_)
  have fr := fr.tr (M2 := M_15) (by rw [e_15]; exact hFr.new f_a_pad)
  have Hh := (o_15 _ (hT_new Hh f_a_pad)).trans Hh
  have H_a_now := (o_15 _ (hT_new H_a_now f_a_pad)).trans H_a_now
  have H_a_cells := (o_15 _ (hT_new H_a_cells f_a_pad)).trans H_a_cells
  have H_a_history := (o_15 _ (hT_new H_a_history f_a_pad)).trans H_a_history
  have H_a_historyCells := (o_15 _ (hT_new H_a_historyCells f_a_pad)).trans H_a_historyCells
  have H_a_saved := (o_15 _ (hT_new H_a_saved f_a_pad)).trans H_a_saved
  have H_a_savedCells := (o_15 _ (hT_new H_a_savedCells f_a_pad)).trans H_a_savedCells
  have H_a_isSaved := (o_15 _ (hT_new H_a_isSaved f_a_pad)).trans H_a_isSaved
  have H_a_pad := g_15
  refine xp_X6_pad 70 C wf_X6_33 rfl rfl wf0_X6_33 Hh rfl rfl dX6_init_67 rfl ?_
  refine x_up (fun M_16 g_16 o_16 e_16 => ?_)
  have fr := fr.tr (M2 := M_16) (by rw [e_16]; exact hFr.put Hh (by omega))
  have H_a_now := (o_16 _ (hT_ne H_a_now Hh (by omega))).trans H_a_now
  have H_a_cells := (o_16 _ (hT_ne H_a_cells Hh (by omega))).trans H_a_cells
  have H_a_history := (o_16 _ (hT_ne H_a_history Hh (by omega))).trans H_a_history
  have H_a_historyCells := (o_16 _ (hT_ne H_a_historyCells Hh (by omega))).trans H_a_historyCells
  have H_a_saved := (o_16 _ (hT_ne H_a_saved Hh (by omega))).trans H_a_saved
  have H_a_savedCells := (o_16 _ (hT_ne H_a_savedCells Hh (by omega))).trans H_a_savedCells
  have H_a_isSaved := (o_16 _ (hT_ne H_a_isSaved Hh (by omega))).trans H_a_isSaved
  have H_a_pad := (o_16 _ (hT_ne H_a_pad Hh (by omega))).trans H_a_pad
  have Hh := g_16
  refine x_aload_0 71 C dX6_init_70 rfl ?_
  refine x_bipush (v := 60) 73 C dX6_init_71 rfl rfl ?_
  refine x_newaI 75 (60) 109 C rfl (by decide) ⟨Nat.le_of_ble_eq_true rfl, Nat.le_of_ble_eq_true rfl⟩ dX6_init_73 rfl (fun a_kind f_a_kind => ?_)
  refine x_up (fun M_17 g_17 o_17 e_17 => ?_)
  have fr := fr.tr (M2 := M_17) (by rw [e_17]; exact hFr.new f_a_kind)
  have Hh := (o_17 _ (hT_new Hh f_a_kind)).trans Hh
  have H_a_now := (o_17 _ (hT_new H_a_now f_a_kind)).trans H_a_now
  have H_a_cells := (o_17 _ (hT_new H_a_cells f_a_kind)).trans H_a_cells
  have H_a_history := (o_17 _ (hT_new H_a_history f_a_kind)).trans H_a_history
  have H_a_historyCells := (o_17 _ (hT_new H_a_historyCells f_a_kind)).trans H_a_historyCells
  have H_a_saved := (o_17 _ (hT_new H_a_saved f_a_kind)).trans H_a_saved
  have H_a_savedCells := (o_17 _ (hT_new H_a_savedCells f_a_kind)).trans H_a_savedCells
  have H_a_isSaved := (o_17 _ (hT_new H_a_isSaved f_a_kind)).trans H_a_isSaved
  have H_a_pad := (o_17 _ (hT_new H_a_pad f_a_kind)).trans H_a_pad
  have H_a_kind := g_17
  refine xp_X6_kind 78 C wf_X6_36 rfl rfl wf0_X6_36 Hh rfl rfl dX6_init_75 rfl ?_
  refine x_up (fun M_18 g_18 o_18 e_18 => ?_)
  have fr := fr.tr (M2 := M_18) (by rw [e_18]; exact hFr.put Hh (by omega))
  have H_a_now := (o_18 _ (hT_ne H_a_now Hh (by omega))).trans H_a_now
  have H_a_cells := (o_18 _ (hT_ne H_a_cells Hh (by omega))).trans H_a_cells
  have H_a_history := (o_18 _ (hT_ne H_a_history Hh (by omega))).trans H_a_history
  have H_a_historyCells := (o_18 _ (hT_ne H_a_historyCells Hh (by omega))).trans H_a_historyCells
  have H_a_saved := (o_18 _ (hT_ne H_a_saved Hh (by omega))).trans H_a_saved
  have H_a_savedCells := (o_18 _ (hT_ne H_a_savedCells Hh (by omega))).trans H_a_savedCells
  have H_a_isSaved := (o_18 _ (hT_ne H_a_isSaved Hh (by omega))).trans H_a_isSaved
  have H_a_pad := (o_18 _ (hT_ne H_a_pad Hh (by omega))).trans H_a_pad
  have H_a_kind := (o_18 _ (hT_ne H_a_kind Hh (by omega))).trans H_a_kind
  have Hh := g_18
  refine x_aload_0 79 C dX6_init_78 rfl ?_
  refine x_bipush (v := 60) 81 C dX6_init_79 rfl rfl ?_
  refine x_newaI 83 (60) 110 C rfl (by decide) ⟨Nat.le_of_ble_eq_true rfl, Nat.le_of_ble_eq_true rfl⟩ dX6_init_81 rfl (fun a_arg f_a_arg => ?_)
  refine x_up (fun M_19 g_19 o_19 e_19 => ?_)
  have fr := fr.tr (M2 := M_19) (by rw [e_19]; exact hFr.new f_a_arg)
  have Hh := (o_19 _ (hT_new Hh f_a_arg)).trans Hh
  have H_a_now := (o_19 _ (hT_new H_a_now f_a_arg)).trans H_a_now
  have H_a_cells := (o_19 _ (hT_new H_a_cells f_a_arg)).trans H_a_cells
  have H_a_history := (o_19 _ (hT_new H_a_history f_a_arg)).trans H_a_history
  have H_a_historyCells := (o_19 _ (hT_new H_a_historyCells f_a_arg)).trans H_a_historyCells
  have H_a_saved := (o_19 _ (hT_new H_a_saved f_a_arg)).trans H_a_saved
  have H_a_savedCells := (o_19 _ (hT_new H_a_savedCells f_a_arg)).trans H_a_savedCells
  have H_a_isSaved := (o_19 _ (hT_new H_a_isSaved f_a_arg)).trans H_a_isSaved
  have H_a_pad := (o_19 _ (hT_new H_a_pad f_a_arg)).trans H_a_pad
  have H_a_kind := (o_19 _ (hT_new H_a_kind f_a_arg)).trans H_a_kind
  have H_a_arg := g_19
  refine xp_X6_arg 86 C wf_X6_39 rfl rfl wf0_X6_39 Hh rfl rfl dX6_init_83 rfl ?_
  refine x_up (fun M_20 g_20 o_20 e_20 => ?_)
  have fr := fr.tr (M2 := M_20) (by rw [e_20]; exact hFr.put Hh (by omega))
  have H_a_now := (o_20 _ (hT_ne H_a_now Hh (by omega))).trans H_a_now
  have H_a_cells := (o_20 _ (hT_ne H_a_cells Hh (by omega))).trans H_a_cells
  have H_a_history := (o_20 _ (hT_ne H_a_history Hh (by omega))).trans H_a_history
  have H_a_historyCells := (o_20 _ (hT_ne H_a_historyCells Hh (by omega))).trans H_a_historyCells
  have H_a_saved := (o_20 _ (hT_ne H_a_saved Hh (by omega))).trans H_a_saved
  have H_a_savedCells := (o_20 _ (hT_ne H_a_savedCells Hh (by omega))).trans H_a_savedCells
  have H_a_isSaved := (o_20 _ (hT_ne H_a_isSaved Hh (by omega))).trans H_a_isSaved
  have H_a_pad := (o_20 _ (hT_ne H_a_pad Hh (by omega))).trans H_a_pad
  have H_a_kind := (o_20 _ (hT_ne H_a_kind Hh (by omega))).trans H_a_kind
  have H_a_arg := (o_20 _ (hT_ne H_a_arg Hh (by omega))).trans H_a_arg
  have Hh := g_20
  refine x_aload_0 87 C dX6_init_86 rfl ?_
  refine x_bipush (v := 61) 89 C dX6_init_87 rfl rfl ?_
  refine x_newaI 91 (61) 111 C rfl (by decide) ⟨Nat.le_of_ble_eq_true rfl, Nat.le_of_ble_eq_true rfl⟩ dX6_init_89 rfl (fun a_opn f_a_opn => ?_)
  refine x_up (fun M_21 g_21 o_21 e_21 => ?_)
  have fr := fr.tr (M2 := M_21) (by rw [e_21]; exact hFr.new f_a_opn)
  have Hh := (o_21 _ (hT_new Hh f_a_opn)).trans Hh
  have H_a_now := (o_21 _ (hT_new H_a_now f_a_opn)).trans H_a_now
  have H_a_cells := (o_21 _ (hT_new H_a_cells f_a_opn)).trans H_a_cells
  have H_a_history := (o_21 _ (hT_new H_a_history f_a_opn)).trans H_a_history
  have H_a_historyCells := (o_21 _ (hT_new H_a_historyCells f_a_opn)).trans H_a_historyCells
  have H_a_saved := (o_21 _ (hT_new H_a_saved f_a_opn)).trans H_a_saved
  have H_a_savedCells := (o_21 _ (hT_new H_a_savedCells f_a_opn)).trans H_a_savedCells
  have H_a_isSaved := (o_21 _ (hT_new H_a_isSaved f_a_opn)).trans H_a_isSaved
  have H_a_pad := (o_21 _ (hT_new H_a_pad f_a_opn)).trans H_a_pad
  have H_a_kind := (o_21 _ (hT_new H_a_kind f_a_opn)).trans H_a_kind
  have H_a_arg := (o_21 _ (hT_new H_a_arg f_a_opn)).trans H_a_arg
  have H_a_opn := g_21
  refine xp_X6_open 94 C wf_X6_42 rfl rfl wf0_X6_42 Hh rfl rfl dX6_init_91 rfl ?_
  refine x_up (fun M_22 g_22 o_22 e_22 => ?_)
  have fr := fr.tr (M2 := M_22) (by rw [e_22]; exact hFr.put Hh (by omega))
  have H_a_now := (o_22 _ (hT_ne H_a_now Hh (by omega))).trans H_a_now
  have H_a_cells := (o_22 _ (hT_ne H_a_cells Hh (by omega))).trans H_a_cells
  have H_a_history := (o_22 _ (hT_ne H_a_history Hh (by omega))).trans H_a_history
  have H_a_historyCells := (o_22 _ (hT_ne H_a_historyCells Hh (by omega))).trans H_a_historyCells
  have H_a_saved := (o_22 _ (hT_ne H_a_saved Hh (by omega))).trans H_a_saved
  have H_a_savedCells := (o_22 _ (hT_ne H_a_savedCells Hh (by omega))).trans H_a_savedCells
  have H_a_isSaved := (o_22 _ (hT_ne H_a_isSaved Hh (by omega))).trans H_a_isSaved
  have H_a_pad := (o_22 _ (hT_ne H_a_pad Hh (by omega))).trans H_a_pad
  have H_a_kind := (o_22 _ (hT_ne H_a_kind Hh (by omega))).trans H_a_kind
  have H_a_arg := (o_22 _ (hT_ne H_a_arg Hh (by omega))).trans H_a_arg
  have H_a_opn := (o_22 _ (hT_ne H_a_opn Hh (by omega))).trans H_a_opn
  have Hh := g_22
  refine x_aload_0 95 C dX6_init_94 rfl ?_
  refine x_bipush (v := 60) 97 C dX6_init_95 rfl rfl ?_
  refine x_newaJ 99 (60) 112 C rfl (by decide) ⟨Nat.le_of_ble_eq_true rfl, Nat.le_of_ble_eq_true rfl⟩ dX6_init_97 rfl (fun a_values f_a_values => ?_)
  refine x_up (fun M_23 g_23 o_23 e_23 => ?_)
  have fr := fr.tr (M2 := M_23) (by rw [e_23]; exact hFr.new f_a_values)
  have Hh := (o_23 _ (hT_new Hh f_a_values)).trans Hh
  have H_a_now := (o_23 _ (hT_new H_a_now f_a_values)).trans H_a_now
  have H_a_cells := (o_23 _ (hT_new H_a_cells f_a_values)).trans H_a_cells
  have H_a_history := (o_23 _ (hT_new H_a_history f_a_values)).trans H_a_history
  have H_a_historyCells := (o_23 _ (hT_new H_a_historyCells f_a_values)).trans H_a_historyCells
  have H_a_saved := (o_23 _ (hT_new H_a_saved f_a_values)).trans H_a_saved
  have H_a_savedCells := (o_23 _ (hT_new H_a_savedCells f_a_values)).trans H_a_savedCells
  have H_a_isSaved := (o_23 _ (hT_new H_a_isSaved f_a_values)).trans H_a_isSaved
  have H_a_pad := (o_23 _ (hT_new H_a_pad f_a_values)).trans H_a_pad
  have H_a_kind := (o_23 _ (hT_new H_a_kind f_a_values)).trans H_a_kind
  have H_a_arg := (o_23 _ (hT_new H_a_arg f_a_values)).trans H_a_arg
  have H_a_opn := (o_23 _ (hT_new H_a_opn f_a_values)).trans H_a_opn
  have H_a_values := g_23
  refine xp_X6_values 102 C wf_X6_45 rfl rfl wf0_X6_45 Hh rfl rfl dX6_init_99 rfl ?_
  refine x_up (fun M_24 g_24 o_24 e_24 => ?_)
  have fr := fr.tr (M2 := M_24) (by rw [e_24]; exact hFr.put Hh (by omega))
  have H_a_now := (o_24 _ (hT_ne H_a_now Hh (by omega))).trans H_a_now
  have H_a_cells := (o_24 _ (hT_ne H_a_cells Hh (by omega))).trans H_a_cells
  have H_a_history := (o_24 _ (hT_ne H_a_history Hh (by omega))).trans H_a_history
  have H_a_historyCells := (o_24 _ (hT_ne H_a_historyCells Hh (by omega))).trans H_a_historyCells
  have H_a_saved := (o_24 _ (hT_ne H_a_saved Hh (by omega))).trans H_a_saved
  have H_a_savedCells := (o_24 _ (hT_ne H_a_savedCells Hh (by omega))).trans H_a_savedCells
  have H_a_isSaved := (o_24 _ (hT_ne H_a_isSaved Hh (by omega))).trans H_a_isSaved
  have H_a_pad := (o_24 _ (hT_ne H_a_pad Hh (by omega))).trans H_a_pad
  have H_a_kind := (o_24 _ (hT_ne H_a_kind Hh (by omega))).trans H_a_kind
  have H_a_arg := (o_24 _ (hT_ne H_a_arg Hh (by omega))).trans H_a_arg
  have H_a_opn := (o_24 _ (hT_ne H_a_opn Hh (by omega))).trans H_a_opn
  have H_a_values := (o_24 _ (hT_ne H_a_values Hh (by omega))).trans H_a_values
  have Hh := g_24
  refine x_aload_0 103 C dX6_init_102 rfl ?_
  refine x_bipush (v := 60) 105 C dX6_init_103 rfl rfl ?_
  refine x_newaJ 107 (60) 113 C rfl (by decide) ⟨Nat.le_of_ble_eq_true rfl, Nat.le_of_ble_eq_true rfl⟩ dX6_init_105 rfl (fun a_pile f_a_pile => ?_)
  refine x_up (fun M_25 g_25 o_25 e_25 => ?_)
  have fr := fr.tr (M2 := M_25) (by rw [e_25]; exact hFr.new f_a_pile)
  have Hh := (o_25 _ (hT_new Hh f_a_pile)).trans Hh
  have H_a_now := (o_25 _ (hT_new H_a_now f_a_pile)).trans H_a_now
  have H_a_cells := (o_25 _ (hT_new H_a_cells f_a_pile)).trans H_a_cells
  have H_a_history := (o_25 _ (hT_new H_a_history f_a_pile)).trans H_a_history
  have H_a_historyCells := (o_25 _ (hT_new H_a_historyCells f_a_pile)).trans H_a_historyCells
  have H_a_saved := (o_25 _ (hT_new H_a_saved f_a_pile)).trans H_a_saved
  have H_a_savedCells := (o_25 _ (hT_new H_a_savedCells f_a_pile)).trans H_a_savedCells
  have H_a_isSaved := (o_25 _ (hT_new H_a_isSaved f_a_pile)).trans H_a_isSaved
  have H_a_pad := (o_25 _ (hT_new H_a_pad f_a_pile)).trans H_a_pad
  have H_a_kind := (o_25 _ (hT_new H_a_kind f_a_pile)).trans H_a_kind
  have H_a_arg := (o_25 _ (hT_new H_a_arg f_a_pile)).trans H_a_arg
  have H_a_opn := (o_25 _ (hT_new H_a_opn f_a_pile)).trans H_a_opn
  have H_a_values := (o_25 _ (hT_new H_a_values f_a_pile)).trans H_a_values
  have H_a_pile := g_25
  refine xp_X6_pile 110 C wf_X6_48 rfl rfl wf0_X6_48 Hh rfl rfl dX6_init_107 rfl ?_
  refine x_up (fun M_26 g_26 o_26 e_26 => ?_)
  have fr := fr.tr (M2 := M_26) (by rw [e_26]; exact hFr.put Hh (by omega))
  have H_a_now := (o_26 _ (hT_ne H_a_now Hh (by omega))).trans H_a_now
  have H_a_cells := (o_26 _ (hT_ne H_a_cells Hh (by omega))).trans H_a_cells
  have H_a_history := (o_26 _ (hT_ne H_a_history Hh (by omega))).trans H_a_history
  have H_a_historyCells := (o_26 _ (hT_ne H_a_historyCells Hh (by omega))).trans H_a_historyCells
  have H_a_saved := (o_26 _ (hT_ne H_a_saved Hh (by omega))).trans H_a_saved
  have H_a_savedCells := (o_26 _ (hT_ne H_a_savedCells Hh (by omega))).trans H_a_savedCells
  have H_a_isSaved := (o_26 _ (hT_ne H_a_isSaved Hh (by omega))).trans H_a_isSaved
  have H_a_pad := (o_26 _ (hT_ne H_a_pad Hh (by omega))).trans H_a_pad
  have H_a_kind := (o_26 _ (hT_ne H_a_kind Hh (by omega))).trans H_a_kind
  have H_a_arg := (o_26 _ (hT_ne H_a_arg Hh (by omega))).trans H_a_arg
  have H_a_opn := (o_26 _ (hT_ne H_a_opn Hh (by omega))).trans H_a_opn
  have H_a_values := (o_26 _ (hT_ne H_a_values Hh (by omega))).trans H_a_values
  have H_a_pile := (o_26 _ (hT_ne H_a_pile Hh (by omega))).trans H_a_pile
  have Hh := g_26
  refine x_aload_0 111 C dX6_init_110 rfl ?_
  refine xg_X6_now 114 C wf_X6_7 Hh dX6_init_111 rfl ?_
  refine x_iconst (v := 1) 115 C dX6_init_114 rfl rfl ?_
  refine x_iconst (v := 3) 116 C dX6_init_115 rfl rfl ?_
  refine x_iast 117 (1) C H_a_now (rfl) (by decide) (by decide) dX6_init_116 rfl ?_
  refine x_up (fun M_27 g_27 o_27 e_27 => ?_)
  have fr := fr.tr (M2 := M_27) (by rw [e_27]; exact hFr.put H_a_now (by omega))
  have Hh := (o_27 _ (hT_ne Hh H_a_now (by omega))).trans Hh
  have H_a_cells := (o_27 _ (hT_ne H_a_cells H_a_now (by omega))).trans H_a_cells
  have H_a_history := (o_27 _ (hT_ne H_a_history H_a_now (by omega))).trans H_a_history
  have H_a_historyCells := (o_27 _ (hT_ne H_a_historyCells H_a_now (by omega))).trans H_a_historyCells
  have H_a_saved := (o_27 _ (hT_ne H_a_saved H_a_now (by omega))).trans H_a_saved
  have H_a_savedCells := (o_27 _ (hT_ne H_a_savedCells H_a_now (by omega))).trans H_a_savedCells
  have H_a_isSaved := (o_27 _ (hT_ne H_a_isSaved H_a_now (by omega))).trans H_a_isSaved
  have H_a_pad := (o_27 _ (hT_ne H_a_pad H_a_now (by omega))).trans H_a_pad
  have H_a_kind := (o_27 _ (hT_ne H_a_kind H_a_now (by omega))).trans H_a_kind
  have H_a_arg := (o_27 _ (hT_ne H_a_arg H_a_now (by omega))).trans H_a_arg
  have H_a_opn := (o_27 _ (hT_ne H_a_opn H_a_now (by omega))).trans H_a_opn
  have H_a_values := (o_27 _ (hT_ne H_a_values H_a_now (by omega))).trans H_a_values
  have H_a_pile := (o_27 _ (hT_ne H_a_pile H_a_now (by omega))).trans H_a_pile
  have H_a_now := g_27
  refine x_vreturn C Rt dX6_init_117 ⟨Nat.le_of_ble_eq_true rfl, Nat.le_of_ble_eq_true rfl⟩ ?_
  refine ⟨rfl, fun i => [h, a_now, a_cells, a_history, a_historyCells, a_saved, a_savedCells, a_isSaved, a_pad, a_kind, a_arg, a_opn, a_values, a_pile].getD i 0, rfl, ⟨fun _ => 0, fun i => if i = 1 then va_up (fun _ => 0) 1 3 else fun _ => 0, fun _ _ => 0, ⟨Hh, H_a_now, H_a_cells, H_a_history, H_a_historyCells, H_a_saved, H_a_savedCells, H_a_isSaved, H_a_pad, H_a_kind, H_a_arg, H_a_opn, H_a_values, H_a_pile⟩, ?_⟩, fr⟩
  refine ⟨rfl, rfl, ⟨rfl, rfl, fun i hi => ⟨?_, fun k hk => absurd hk (Nat.not_lt_zero _)⟩⟩, fun i hi => rfl, fun i hi => absurd hi (Nat.not_lt_zero _), fun s hs => ⟨fun _ => rfl, fun τ h => (by cases h)⟩, fun k hk => absurd hk (Nat.not_lt_zero _)⟩
  show va_up (fun _ => (0 : Int32)) 1 3 (2 + i) = nI 0
  rw [va_up_ne _ _ (by omega)]; rfl
