/-! WALKS: the reference -/
set_option maxRecDepth 20000 in
theorem vR_init {l : Launch} {G : ev_G} {h : ev_AH} {P : ev_Post} {p0 : Nat} (V : ∀ q1 : Nat, h q1 = none → ∀ h2 : ev_AH, h2 = ev_up h q1 (100, List.replicate 20 (.int 0)) → ∃ w3 : Value, ev_f h2 p0 4 2 = some w3 ∧ ∀ h4 : ev_AH, h4 = ev_s h2 p0 2 (.ref q1) → ∀ q5 : Nat, h4 q5 = none → ∀ h6 : ev_AH, h6 = ev_up h4 q5 (100, List.replicate 20 (.int 0)) → ∃ w7 : Value, ev_f h6 p0 4 3 = some w7 ∧ ∀ h8 : ev_AH, h8 = ev_s h6 p0 3 (.ref q5) → ∀ q9 : Nat, h8 q9 = none → ∀ h10 : ev_AH, h10 = ev_up h8 q9 (100, List.replicate 20 (.int 0)) → ∃ w11 : Value, ev_f h10 p0 4 4 = some w11 ∧ ∀ h12 : ev_AH, h12 = ev_s h10 p0 4 (.ref q9) → ∀ q13 : Nat, h12 q13 = none → ∀ h14 : ev_AH, h14 = ev_up h12 q13 (100, List.replicate 20 (.int 0)) → ∃ w15 : Value, ev_f h14 p0 4 5 = some w15 ∧ ∀ h16 : ev_AH, h16 = ev_s h14 p0 5 (.ref q13) → ∀ q17 : Nat, h16 q17 = none → ∀ h18 : ev_AH, h18 = ev_up h16 q17 (100, List.replicate 20 (.int 0)) → ∃ w19 : Value, ev_f h18 p0 4 6 = some w19 ∧ ∀ h20 : ev_AH, h20 = ev_s h18 p0 6 (.ref q17) → ∀ q21 : Nat, h20 q21 = none → ∀ h22 : ev_AH, h22 = ev_up h20 q21 (100, List.replicate 20 (.int 0)) → ∃ w23 : Value, ev_f h22 p0 4 7 = some w23 ∧ ∀ h24 : ev_AH, h24 = ev_s h22 p0 7 (.ref q21) → ∀ q25 : Nat, h24 q25 = none → ∀ h26 : ev_AH, h26 = ev_up h24 q25 (100, List.replicate 20 (.int 0)) → ∃ w27 : Value, ev_f h26 p0 4 8 = some w27 ∧ ∀ h28 : ev_AH, h28 = ev_s h26 p0 8 (.ref q25) → ∀ q29 : Nat, h28 q29 = none → ∀ h30 : ev_AH, h30 = ev_up h28 q29 (100, List.replicate 20 (.int 0)) → ∃ w31 : Value, ev_f h30 p0 4 9 = some w31 ∧ ∀ h32 : ev_AH, h32 = ev_s h30 p0 9 (.ref q29) → ∀ q33 : Nat, h32 q33 = none → ∀ h34 : ev_AH, h34 = ev_up h32 q33 (100, List.replicate 20 (.int 0)) → ∃ w35 : Value, ev_f h34 p0 4 10 = some w35 ∧ ∀ h36 : ev_AH, h36 = ev_s h34 p0 10 (.ref q33) → ∀ q37 : Nat, h36 q37 = none → ∀ h38 : ev_AH, h38 = ev_up h36 q37 (100, List.replicate 160 (.int 0)) → ∃ w39 : Value, ev_f h38 p0 4 11 = some w39 ∧ ∀ h40 : ev_AH, h40 = ev_s h38 p0 11 (.ref q37) → ∀ q41 : Nat, h40 q41 = none → ∀ h42 : ev_AH, h42 = ev_up h40 q41 (100, List.replicate 60 (.int 0)) → ∃ w43 : Value, ev_f h42 p0 4 13 = some w43 ∧ ∀ h44 : ev_AH, h44 = ev_s h42 p0 13 (.ref q41) → ∀ q45 : Nat, h44 q45 = none → ∀ h46 : ev_AH, h46 = ev_up h44 q45 (100, List.replicate 60 (.int 0)) → ∃ w47 : Value, ev_f h46 p0 4 14 = some w47 ∧ ∀ h48 : ev_AH, h48 = ev_s h46 p0 14 (.ref q45) → ∀ q49 : Nat, h48 q49 = none → ∀ h50 : ev_AH, h50 = ev_up h48 q49 (100, List.replicate 60 (.int 0)) → ∃ w51 : Value, ev_f h50 p0 4 15 = some w51 ∧ ∀ h52 : ev_AH, h52 = ev_s h50 p0 15 (.ref q49) → ∀ q53 : Nat, h52 q53 = none → ∀ h54 : ev_AH, h54 = ev_up h52 q53 (100, List.replicate 60 (.int 0)) → ∃ w55 : Value, ev_f h54 p0 4 16 = some w55 ∧ ∀ h56 : ev_AH, h56 = ev_s h54 p0 16 (.ref q53) → ∀ q57 : Nat, h56 q57 = none → ∀ h58 : ev_AH, h58 = ev_up h56 q57 (100, List.replicate 60 (.int 0)) → ∃ w59 : Value, ev_f h58 p0 4 17 = some w59 ∧ ∀ h60 : ev_AH, h60 = ev_s h58 p0 17 (.ref q57) → ∀ q61 : Nat, h60 q61 = none → ∀ h62 : ev_AH, h62 = ev_up h60 q61 (100, List.replicate 60 (.int 0)) → ∃ w63 : Value, ev_f h62 p0 4 18 = some w63 ∧ ∀ h64 : ev_AH, h64 = ev_s h62 p0 18 (.ref q61) → ∀ q65 : Nat, h64 q65 = none → ∀ h66 : ev_AH, h66 = ev_up h64 q65 (100, List.replicate 60 (.int 0)) → ∃ w67 : Value, ev_f h66 p0 4 19 = some w67 ∧ ∀ h68 : ev_AH, h68 = ev_s h66 p0 19 (.ref q65) → ∀ q69 : Nat, h68 q69 = none → ∀ h70 : ev_AH, h70 = ev_up h68 q69 (100, List.replicate 60 (.int 0)) → ∃ w71 : Value, ev_f h70 p0 4 20 = some w71 ∧ ∀ h72 : ev_AH, h72 = ev_s h70 p0 20 (.ref q69) → ∀ q73 : Nat, h72 q73 = none → ∀ h74 : ev_AH, h74 = ev_up h72 q73 (101, List.replicate 60 (.int 0)) → ∃ w75 : Value, ev_f h74 p0 4 21 = some w75 ∧ ∀ h76 : ev_AH, h76 = ev_s h74 p0 21 (.ref q73) → ∀ q77 : Nat, h76 q77 = none → ∀ h78 : ev_AH, h78 = ev_up h76 q77 (101, List.replicate 60 (.int 0)) → ∃ w79 : Value, ev_f h78 p0 4 22 = some w79 ∧ ∀ h80 : ev_AH, h80 = ev_s h78 p0 22 (.ref q77) → P (.inl none) h80) : Mt l G M_R_init [.ref p0] h P := by
  refine Mt.of rfl rfl (Nat.le_of_ble_eq_true rfl) ?_
  show Ev l G M_R_init 0 [(0, .ref p0)] [] h 21 940 (ev_fin G M_R_init P)
  refine e_aload_n fR_init_0 rfl 0 rfl ?_
  refine e_obj fR_init_1 oR_1.1 oR_1.2.1 oR_1.2.2 (Nat.le_of_ble_eq_true rfl) (Nat.le_of_ble_eq_true rfl) ?_
  refine e_aload_n fR_init_4 rfl 0 rfl ?_
  refine e_bipush (v := 20) fR_init_5 (by decide) ?_
  refine e_newa0 (n := 20) (uc' := 20) (us' := 920) fR_init_7 tb_arr0 (by decide) (by decide) (by decide) (by decide) (fun q1 gq1 h2 eh2 => ?_)
  have V := V q1 gq1 h2 eh2
  obtain ⟨w3, gw3, V⟩ := V
  refine e_putF fR_init_9 pR_7 rfl gw3 rfl rfl (fun h4 eh4 => ?_)
  have V := V h4 eh4
  refine e_aload_n fR_init_12 rfl 0 rfl ?_
  refine e_bipush (v := 20) fR_init_13 (by decide) ?_
  refine e_newa0 (n := 20) (uc' := 19) (us' := 900) fR_init_15 tb_arr0 (by decide) (by decide) (by decide) (by decide) (fun q5 gq5 h6 eh6 => ?_)
  have V := V q5 gq5 h6 eh6
  obtain ⟨w7, gw7, V⟩ := V
  refine e_putF fR_init_17 pR_13 rfl gw7 rfl rfl (fun h8 eh8 => ?_)
  have V := V h8 eh8
  refine e_aload_n fR_init_20 rfl 0 rfl ?_
  refine e_bipush (v := 20) fR_init_21 (by decide) ?_
  refine e_newa0 (n := 20) (uc' := 18) (us' := 880) fR_init_23 tb_arr0 (by decide) (by decide) (by decide) (by decide) (fun q9 gq9 h10 eh10 => ?_)
  have V := V q9 gq9 h10 eh10
  obtain ⟨w11, gw11, V⟩ := V
  refine e_putF fR_init_25 pR_16 rfl gw11 rfl rfl (fun h12 eh12 => ?_)
  have V := V h12 eh12
  refine e_aload_n fR_init_28 rfl 0 rfl ?_
  refine e_bipush (v := 20) fR_init_29 (by decide) ?_
  refine e_newa0 (n := 20) (uc' := 17) (us' := 860) fR_init_31 tb_arr0 (by decide) (by decide) (by decide) (by decide) (fun q13 gq13 h14 eh14 => ?_)
  have V := V q13 gq13 h14 eh14
  obtain ⟨w15, gw15, V⟩ := V
  refine e_putF fR_init_33 pR_19 rfl gw15 rfl rfl (fun h16 eh16 => ?_)
  have V := V h16 eh16
  refine e_aload_n fR_init_36 rfl 0 rfl ?_
  refine e_bipush (v := 20) fR_init_37 (by decide) ?_
  refine e_newa0 (n := 20) (uc' := 16) (us' := 840) fR_init_39 tb_arr0 (by decide) (by decide) (by decide) (by decide) (fun q17 gq17 h18 eh18 => ?_)
  have V := V q17 gq17 h18 eh18
  obtain ⟨w19, gw19, V⟩ := V
  refine e_putF fR_init_41 pR_22 rfl gw19 rfl rfl (fun h20 eh20 => ?_)
  have V := V h20 eh20
  refine e_aload_n fR_init_44 rfl 0 rfl ?_
  refine e_bipush (v := 20) fR_init_45 (by decide) ?_
  refine e_newa0 (n := 20) (uc' := 15) (us' := 820) fR_init_47 tb_arr0 (by decide) (by decide) (by decide) (by decide) (fun q21 gq21 h22 eh22 => ?_)
  have V := V q21 gq21 h22 eh22
  obtain ⟨w23, gw23, V⟩ := V
  refine e_putF fR_init_49 pR_25 rfl gw23 rfl rfl (fun h24 eh24 => ?_)
  have V := V h24 eh24
  refine e_aload_n fR_init_52 rfl 0 rfl ?_
  refine e_bipush (v := 20) fR_init_53 (by decide) ?_
  refine e_newa0 (n := 20) (uc' := 14) (us' := 800) fR_init_55 tb_arr0 (by decide) (by decide) (by decide) (by decide) (fun q25 gq25 h26 eh26 => ?_)
  have V := V q25 gq25 h26 eh26
  obtain ⟨w27, gw27, V⟩ := V
  refine e_putF fR_init_57 pR_28 rfl gw27 rfl rfl (fun h28 eh28 => ?_)
  have V := V h28 eh28
  refine e_aload_n fR_init_60 rfl 0 rfl ?_
  refine e_bipush (v := 20) fR_init_61 (by decide) ?_
  refine e_newa0 (n := 20) (uc' := 13) (us' := 780) fR_init_63 tb_arr0 (by decide) (by decide) (by decide) (by decide) (fun q29 gq29 h30 eh30 => ?_)
  have V := V q29 gq29 h30 eh30
  obtain ⟨w31, gw31, V⟩ := V
  refine e_putF fR_init_65 pR_31 rfl gw31 rfl rfl (fun h32 eh32 => ?_)
  have V := V h32 eh32
  refine e_aload_n fR_init_68 rfl 0 rfl ?_
  refine e_bipush (v := 20) fR_init_69 (by decide) ?_
  refine e_newa0 (n := 20) (uc' := 12) (us' := 760) fR_init_71 tb_arr0 (by decide) (by decide) (by decide) (by decide) (fun q33 gq33 h34 eh34 => ?_)
  have V := V q33 gq33 h34 eh34
  obtain ⟨w35, gw35, V⟩ := V
  refine e_putF fR_init_73 pR_34 rfl gw35 rfl rfl (fun h36 eh36 => ?_)
  have V := V h36 eh36
  refine e_aload_n fR_init_76 rfl 0 rfl ?_
  refine e_sipush (v := 160) fR_init_77 (by decide) ?_
  refine e_newa0 (n := 160) (uc' := 11) (us' := 600) fR_init_80 tb_arr0 (by decide) (by decide) (by decide) (by decide) (fun q37 gq37 h38 eh38 => ?_)
  have V := V q37 gq37 h38 eh38
  obtain ⟨w39, gw39, V⟩ := V
  refine e_putF fR_init_82 pR_37 rfl gw39 rfl rfl (fun h40 eh40 => ?_)
  have V := V h40 eh40
  refine e_aload_n fR_init_85 rfl 0 rfl ?_
  refine e_bipush (v := 60) fR_init_86 (by decide) ?_
  refine e_newa0 (n := 60) (uc' := 10) (us' := 540) fR_init_88 tb_arr0 (by decide) (by decide) (by decide) (by decide) (fun q41 gq41 h42 eh42 => ?_)
  have V := V q41 gq41 h42 eh42
  obtain ⟨w43, gw43, V⟩ := V
  refine e_putF fR_init_90 pR_40 rfl gw43 rfl rfl (fun h44 eh44 => ?_)
  have V := V h44 eh44
  refine e_aload_n fR_init_93 rfl 0 rfl ?_
  refine e_bipush (v := 60) fR_init_94 (by decide) ?_
  refine e_newa0 (n := 60) (uc' := 9) (us' := 480) fR_init_96 tb_arr0 (by decide) (by decide) (by decide) (by decide) (fun q45 gq45 h46 eh46 => ?_)
  have V := V q45 gq45 h46 eh46
  obtain ⟨w47, gw47, V⟩ := V
  refine e_putF fR_init_98 pR_43 rfl gw47 rfl rfl (fun h48 eh48 => ?_)
  have V := V h48 eh48
  refine e_aload_n fR_init_101 rfl 0 rfl ?_
  refine e_bipush (v := 60) fR_init_102 (by decide) ?_
  refine e_newa0 (n := 60) (uc' := 8) (us' := 420) fR_init_104 tb_arr0 (by decide) (by decide) (by decide) (by decide) (fun q49 gq49 h50 eh50 => ?_)
  have V := V q49 gq49 h50 eh50
  obtain ⟨w51, gw51, V⟩ := V
  refine e_putF fR_init_106 pR_46 rfl gw51 rfl rfl (fun h52 eh52 => ?_)
  have V := V h52 eh52
  refine e_aload_n fR_init_109 rfl 0 rfl ?_
  refine e_bipush (v := 60) fR_init_110 (by decide) ?_
  refine e_newa0 (n := 60) (uc' := 7) (us' := 360) fR_init_112 tb_arr0 (by decide) (by decide) (by decide) (by decide) (fun q53 gq53 h54 eh54 => ?_)
  have V := V q53 gq53 h54 eh54
  obtain ⟨w55, gw55, V⟩ := V
  refine e_putF fR_init_114 pR_49 rfl gw55 rfl rfl (fun h56 eh56 => ?_)
  have V := V h56 eh56
  refine e_aload_n fR_init_117 rfl 0 rfl ?_
  refine e_bipush (v := 60) fR_init_118 (by decide) ?_
  refine e_newa0 (n := 60) (uc' := 6) (us' := 300) fR_init_120 tb_arr0 (by decide) (by decide) (by decide) (by decide) (fun q57 gq57 h58 eh58 => ?_)
  have V := V q57 gq57 h58 eh58
  obtain ⟨w59, gw59, V⟩ := V
  refine e_putF fR_init_122 pR_52 rfl gw59 rfl rfl (fun h60 eh60 => ?_)
  have V := V h60 eh60
  refine e_aload_n fR_init_125 rfl 0 rfl ?_
  refine e_bipush (v := 60) fR_init_126 (by decide) ?_
  refine e_newa0 (n := 60) (uc' := 5) (us' := 240) fR_init_128 tb_arr0 (by decide) (by decide) (by decide) (by decide) (fun q61 gq61 h62 eh62 => ?_)
  have V := V q61 gq61 h62 eh62
  obtain ⟨w63, gw63, V⟩ := V
  refine e_putF fR_init_130 pR_55 rfl gw63 rfl rfl (fun h64 eh64 => ?_)
  have V := V h64 eh64
  refine e_aload_n fR_init_133 rfl 0 rfl ?_
  refine e_bipush (v := 60) fR_init_134 (by decide) ?_
  refine e_newa0 (n := 60) (uc' := 4) (us' := 180) fR_init_136 tb_arr0 (by decide) (by decide) (by decide) (by decide) (fun q65 gq65 h66 eh66 => ?_)
  have V := V q65 gq65 h66 eh66
  obtain ⟨w67, gw67, V⟩ := V
  refine e_putF fR_init_138 pR_58 rfl gw67 rfl rfl (fun h68 eh68 => ?_)
  have V := V h68 eh68
  refine e_aload_n fR_init_141 rfl 0 rfl ?_
  refine e_bipush (v := 60) fR_init_142 (by decide) ?_
  refine e_newa0 (n := 60) (uc' := 3) (us' := 120) fR_init_144 tb_arr0 (by decide) (by decide) (by decide) (by decide) (fun q69 gq69 h70 eh70 => ?_)
  have V := V q69 gq69 h70 eh70
  obtain ⟨w71, gw71, V⟩ := V
  refine e_putF fR_init_146 pR_61 rfl gw71 rfl rfl (fun h72 eh72 => ?_)
  have V := V h72 eh72
  refine e_aload_n fR_init_149 rfl 0 rfl ?_
  refine e_bipush (v := 60) fR_init_150 (by decide) ?_
  refine e_newa1 (n := 60) (uc' := 2) (us' := 60) fR_init_152 tb_arr1 (by decide) (by decide) (by decide) (by decide) (fun q73 gq73 h74 eh74 => ?_)
  have V := V q73 gq73 h74 eh74
  obtain ⟨w75, gw75, V⟩ := V
  refine e_putF fR_init_154 pR_64 rfl gw75 rfl rfl (fun h76 eh76 => ?_)
  have V := V h76 eh76
  refine e_aload_n fR_init_157 rfl 0 rfl ?_
  refine e_bipush (v := 60) fR_init_158 (by decide) ?_
  refine e_newa1 (n := 60) (uc' := 1) (us' := 0) fR_init_160 tb_arr1 (by decide) (by decide) (by decide) (by decide) (fun q77 gq77 h78 eh78 => ?_)
  have V := V q77 gq77 h78 eh78
  obtain ⟨w79, gw79, V⟩ := V
  refine e_putF fR_init_162 pR_68 rfl gw79 rfl rfl (fun h80 eh80 => ?_)
  have V := V h80 eh80
  exact e_vret fR_init_165 rfl V
set_option maxRecDepth 20000 in
theorem vR_newOrder {l : Launch} {G : ev_G} {h : ev_AH} {P : ev_Post} {p0 : Nat} {p1 : Int32} {p2 : Int32} {p3 : Int32} {p4 : Int32} (V : ∃ v1 : Nat, ev_f h p0 4 2 = some (.ref v1) ∧ ∃ v2 : Int32, ev_f h p0 4 1 = some (.int v2) ∧ ∃ w3 : Value, ¬ v2 < 0 ∧ ev_f h v1 100 (Int32.toNatClampNeg v2) = some w3 ∧ ∀ h4 : ev_AH, h4 = ev_s h v1 (Int32.toNatClampNeg v2) (.int p1) → ∃ v5 : Nat, ev_f h4 p0 4 3 = some (.ref v5) ∧ ∃ v6 : Int32, ev_f h4 p0 4 1 = some (.int v6) ∧ ∃ w7 : Value, ¬ v6 < 0 ∧ ev_f h4 v5 100 (Int32.toNatClampNeg v6) = some w7 ∧ ∀ h8 : ev_AH, h8 = ev_s h4 v5 (Int32.toNatClampNeg v6) (.int p2) → ∃ v9 : Nat, ev_f h8 p0 4 4 = some (.ref v9) ∧ ∃ v10 : Int32, ev_f h8 p0 4 1 = some (.int v10) ∧ ∃ w11 : Value, ¬ v10 < 0 ∧ ev_f h8 v9 100 (Int32.toNatClampNeg v10) = some w11 ∧ ∀ h12 : ev_AH, h12 = ev_s h8 v9 (Int32.toNatClampNeg v10) (.int p3) → ∃ v13 : Nat, ev_f h12 p0 4 5 = some (.ref v13) ∧ ∃ v14 : Int32, ev_f h12 p0 4 1 = some (.int v14) ∧ ∃ w15 : Value, ¬ v14 < 0 ∧ ev_f h12 v13 100 (Int32.toNatClampNeg v14) = some w15 ∧ ∀ h16 : ev_AH, h16 = ev_s h12 v13 (Int32.toNatClampNeg v14) (.int p4) → ∃ v17 : Nat, ev_f h16 p0 4 6 = some (.ref v17) ∧ ∃ v18 : Int32, ev_f h16 p0 4 1 = some (.int v18) ∧ ∃ w19 : Value, ¬ v18 < 0 ∧ ev_f h16 v17 100 (Int32.toNatClampNeg v18) = some w19 ∧ ∀ h20 : ev_AH, h20 = ev_s h16 v17 (Int32.toNatClampNeg v18) (.int 0) → ∃ v21 : Nat, ev_f h20 p0 4 8 = some (.ref v21) ∧ ∃ v22 : Int32, ev_f h20 p0 4 1 = some (.int v22) ∧ ∃ w23 : Value, ¬ v22 < 0 ∧ ev_f h20 v21 100 (Int32.toNatClampNeg v22) = some w23 ∧ ∀ h24 : ev_AH, h24 = ev_s h20 v21 (Int32.toNatClampNeg v22) (.int 1) → ∃ v25 : Nat, ev_f h24 p0 4 9 = some (.ref v25) ∧ ∃ v26 : Int32, ev_f h24 p0 4 1 = some (.int v26) ∧ ∃ w27 : Value, ¬ v26 < 0 ∧ ev_f h24 v25 100 (Int32.toNatClampNeg v26) = some w27 ∧ ∀ h28 : ev_AH, h28 = ev_s h24 v25 (Int32.toNatClampNeg v26) (.int (-1)) → ∃ v29 : Int32, ev_f h28 p0 4 1 = some (.int v29) ∧ ∃ w30 : Value, ev_f h28 p0 4 1 = some w30 ∧ ∀ h31 : ev_AH, h31 = ev_s h28 p0 1 (.int (v29 + 1)) → ∃ v32 : Int32, ev_f h31 p0 4 1 = some (.int v32) ∧ P (.inl (some (.int (v32 - 1)))) h31) : Mt l G M_R_newOrder [.ref p0, .int p1, .int p2, .int p3, .int p4] h P := by
  refine Mt.of rfl rfl (Nat.le_of_ble_eq_true rfl) ?_
  show Ev l G M_R_newOrder 0 [(0, .ref p0), (1, .int p1), (2, .int p2), (3, .int p3), (4, .int p4)] [] h 0 0 (ev_fin G M_R_newOrder P)
  refine e_aload_n fR_newOrder_0 rfl 0 rfl ?_
  obtain ⟨v1, gv1, V⟩ := V
  refine e_get fR_newOrder_1 kR_7 gv1 ?_
  refine e_aload_n fR_newOrder_4 rfl 0 rfl ?_
  obtain ⟨v2, gv2, V⟩ := V
  refine e_get fR_newOrder_5 kR_75 gv2 ?_
  refine e_iload_n fR_newOrder_8 rfl 1 rfl ?_
  obtain ⟨w3, g0, gw3, V⟩ := V
  refine e_iast fR_newOrder_9 g0 gw3 (fun h4 eh4 => ?_)
  have V := V h4 eh4
  refine e_aload_n fR_newOrder_10 rfl 0 rfl ?_
  obtain ⟨v5, gv5, V⟩ := V
  refine e_get fR_newOrder_11 kR_13 gv5 ?_
  refine e_aload_n fR_newOrder_14 rfl 0 rfl ?_
  obtain ⟨v6, gv6, V⟩ := V
  refine e_get fR_newOrder_15 kR_75 gv6 ?_
  refine e_iload_n fR_newOrder_18 rfl 2 rfl ?_
  obtain ⟨w7, g0, gw7, V⟩ := V
  refine e_iast fR_newOrder_19 g0 gw7 (fun h8 eh8 => ?_)
  have V := V h8 eh8
  refine e_aload_n fR_newOrder_20 rfl 0 rfl ?_
  obtain ⟨v9, gv9, V⟩ := V
  refine e_get fR_newOrder_21 kR_16 gv9 ?_
  refine e_aload_n fR_newOrder_24 rfl 0 rfl ?_
  obtain ⟨v10, gv10, V⟩ := V
  refine e_get fR_newOrder_25 kR_75 gv10 ?_
  refine e_iload_n fR_newOrder_28 rfl 3 rfl ?_
  obtain ⟨w11, g0, gw11, V⟩ := V
  refine e_iast fR_newOrder_29 g0 gw11 (fun h12 eh12 => ?_)
  have V := V h12 eh12
  refine e_aload_n fR_newOrder_30 rfl 0 rfl ?_
  obtain ⟨v13, gv13, V⟩ := V
  refine e_get fR_newOrder_31 kR_19 gv13 ?_
  refine e_aload_n fR_newOrder_34 rfl 0 rfl ?_
  obtain ⟨v14, gv14, V⟩ := V
  refine e_get fR_newOrder_35 kR_75 gv14 ?_
  refine e_iload fR_newOrder_38 4 rfl ?_
  obtain ⟨w15, g0, gw15, V⟩ := V
  refine e_iast fR_newOrder_40 g0 gw15 (fun h16 eh16 => ?_)
  have V := V h16 eh16
  refine e_aload_n fR_newOrder_41 rfl 0 rfl ?_
  obtain ⟨v17, gv17, V⟩ := V
  refine e_get fR_newOrder_42 kR_22 gv17 ?_
  refine e_aload_n fR_newOrder_45 rfl 0 rfl ?_
  obtain ⟨v18, gv18, V⟩ := V
  refine e_get fR_newOrder_46 kR_75 gv18 ?_
  refine e_iconst (v := 0) fR_newOrder_49 (by decide) ?_
  obtain ⟨w19, g0, gw19, V⟩ := V
  refine e_iast fR_newOrder_50 g0 gw19 (fun h20 eh20 => ?_)
  have V := V h20 eh20
  refine e_aload_n fR_newOrder_51 rfl 0 rfl ?_
  obtain ⟨v21, gv21, V⟩ := V
  refine e_get fR_newOrder_52 kR_28 gv21 ?_
  refine e_aload_n fR_newOrder_55 rfl 0 rfl ?_
  obtain ⟨v22, gv22, V⟩ := V
  refine e_get fR_newOrder_56 kR_75 gv22 ?_
  refine e_iconst (v := 1) fR_newOrder_59 (by decide) ?_
  obtain ⟨w23, g0, gw23, V⟩ := V
  refine e_iast fR_newOrder_60 g0 gw23 (fun h24 eh24 => ?_)
  have V := V h24 eh24
  refine e_aload_n fR_newOrder_61 rfl 0 rfl ?_
  obtain ⟨v25, gv25, V⟩ := V
  refine e_get fR_newOrder_62 kR_31 gv25 ?_
  refine e_aload_n fR_newOrder_65 rfl 0 rfl ?_
  obtain ⟨v26, gv26, V⟩ := V
  refine e_get fR_newOrder_66 kR_75 gv26 ?_
  refine e_iconst (v := -1) fR_newOrder_69 (by decide) ?_
  obtain ⟨w27, g0, gw27, V⟩ := V
  refine e_iast fR_newOrder_70 g0 gw27 (fun h28 eh28 => ?_)
  have V := V h28 eh28
  refine e_aload_n fR_newOrder_71 rfl 0 rfl ?_
  refine e_dup fR_newOrder_72 rfl ?_
  obtain ⟨v29, gv29, V⟩ := V
  refine e_get fR_newOrder_73 kR_75 gv29 ?_
  refine e_iconst (v := 1) fR_newOrder_76 (by decide) ?_
  refine e_iadd fR_newOrder_77 ?_
  obtain ⟨w30, gw30, V⟩ := V
  refine e_put fR_newOrder_78 pR_75 gw30 rfl rfl (fun h31 eh31 => ?_)
  have V := V h31 eh31
  refine e_aload_n fR_newOrder_81 rfl 0 rfl ?_
  obtain ⟨v32, gv32, V⟩ := V
  refine e_get fR_newOrder_82 kR_75 gv32 ?_
  refine e_iconst (v := 1) fR_newOrder_85 (by decide) ?_
  refine e_isub fR_newOrder_86 ?_
  exact e_iret fR_newOrder_87 rfl V
set_option maxRecDepth 20000 in
theorem vR_order_63 {l : Launch} {G : ev_G} {h : ev_AH} {P : ev_Post} {a0 : Nat} {a1 : Int32} {a2 : Int32} {a3 : Int32} {a4 : Int32} {a5 : Int32} (V : ∃ v1 : Int32, ev_f h a0 4 1 = some (.int v1) ∧ ((v1 ≤ a5 → ∃ v2 : Int32, ev_f h a0 4 1 = some (.int v2) ∧ ∃ J4 : Int32 → Prop, J4 = (fun (j3 : Int32) => ∃ w5 : Value, ev_f h a0 4 0 = some w5 ∧ ∀ h6 : ev_AH, h6 = ev_s h a0 0 (.int j3) → ∃ v7 : Int32, ev_f h6 a0 4 0 = some (.int v7) ∧ ((v7 ≤ 0 → (∃ fs : List Value, h6 a0 = some (4, fs)) ∧ ∃ (A : Int32 → ev_AH → Prop) (X : String → ev_AH → Prop), Mt l G M_R_newOrder [.ref a0, .int a1, .int a2, .int a3, .int a4] h6 (ev_pi A X) ∧ (∀ (r9 : Int32) (h8 : ev_AH), A r9 h8 → P (.inl (some (.int r9))) h8) ∧ (∀ (E : String) (h9 : ev_AH), X E h9 → P (.inr E) h9)) ∧ (¬ v7 ≤ 0 → P (.inl (some (.int 0))) h6))) ∧ ((¬ v2 = 20 → J4 0) ∧ (v2 = 20 → J4 2))) ∧ (¬ v1 ≤ a5 → ∃ v10 : Nat, ev_f h a0 4 2 = some (.ref v10) ∧ ∃ v11 : Int32, ¬ a5 < 0 ∧ ev_f h v10 100 (Int32.toNatClampNeg a5) = some (.int v11) ∧ ((¬ v11 = a1 → ∀ x12 : Int32, x12 = a5 + 1 → Ev l G M_R_order 63 [(0, .ref a0), (1, .int a1), (2, .int a2), (3, .int a3), (4, .int a4), (5, .int x12)] [] h 0 0 (ev_fin G M_R_order P)) ∧ (v11 = a1 → ∃ v13 : Nat, ev_f h a0 4 3 = some (.ref v13) ∧ ∃ v14 : Int32, ¬ a5 < 0 ∧ ev_f h v13 100 (Int32.toNatClampNeg a5) = some (.int v14) ∧ ((¬ v14 = a2 → ∀ x15 : Int32, x15 = a5 + 1 → Ev l G M_R_order 63 [(0, .ref a0), (1, .int a1), (2, .int a2), (3, .int a3), (4, .int a4), (5, .int x15)] [] h 0 0 (ev_fin G M_R_order P)) ∧ (v14 = a2 → P (.inl (some (.int ((-1) - a5)))) h))))))) : Ev l G M_R_order 63 [(0, .ref a0), (1, .int a1), (2, .int a2), (3, .int a3), (4, .int a4), (5, .int a5)] [] h 0 0 (ev_fin G M_R_order P) := by
  refine e_iload fR_order_63 5 rfl ?_
  refine e_aload_n fR_order_65 rfl 0 rfl ?_
  obtain ⟨v1, gv1, V⟩ := V
  refine e_get fR_order_66 kR_75 gv1 ?_
  refine e_icmp_ge (tgt := 105) fR_order_69 (by decide) (fun z => ?_) (fun z => ?_)
  · have V := V.1 z
    refine e_aload_n fR_order_105 rfl 0 rfl ?_
    refine e_aload_n fR_order_106 rfl 0 rfl ?_
    obtain ⟨v2, gv2, V⟩ := V
    refine e_get fR_order_107 kR_75 gv2 ?_
    refine e_bipush (v := 20) fR_order_110 (by decide) ?_
    obtain ⟨J4, VJ4, V⟩ := V
    have KJ4 : ∀ (j3 : Int32), J4 j3 → Ev l G M_R_order 120 [(0, .ref a0), (1, .int a1), (2, .int a2), (3, .int a3), (4, .int a4), (5, .int a5)] [.int j3, .ref a0] h 0 0 (ev_fin G M_R_order P) := by
      intro j3 hj
      have V := Eq.mp (congrFun VJ4 j3) hj
      obtain ⟨w5, gw5, V⟩ := V
      refine e_put fR_order_120 pR_71 gw5 rfl rfl (fun h6 eh6 => ?_)
      have V := V h6 eh6
      refine e_aload_n fR_order_123 rfl 0 rfl ?_
      obtain ⟨v7, gv7, V⟩ := V
      refine e_get fR_order_124 kR_71 gv7 ?_
      refine e_if_le (tgt := 134) fR_order_127 (by decide) (fun z => ?_) (fun z => ?_)
      · have V := V.1 z
        refine e_aload_n fR_order_134 rfl 0 rfl ?_
        refine e_iload_n fR_order_135 rfl 1 rfl ?_
        refine e_iload_n fR_order_136 rfl 2 rfl ?_
        refine e_iload_n fR_order_137 rfl 3 rfl ?_
        refine e_iload fR_order_138 4 rfl ?_
        obtain ⟨gc, V⟩ := V
        obtain ⟨A, X, hm, V, VX⟩ := V
        refine e_callVi (uc' := 0) (us' := 0) (st := []) fR_order_140 wR_order_140 rfl rfl gc hm (Nat.le_of_ble_eq_true rfl) (by decide) (by decide) (fun r9 h8 ga => ?_) (fun E h8 gx => ?_)
        · have V := V _ _ ga
          exact e_iret fR_order_143 rfl V
        · exact e_out (by decide) (VX E _ gx)
      · have V := V.2 z
        refine e_iconst (v := 0) fR_order_130 (by decide) ?_
        refine e_goto (tgt := 143) fR_order_131 (by decide) ?_
        exact e_iret fR_order_143 rfl V
    refine e_icmp_ne (tgt := 119) fR_order_112 (by decide) (fun z => ?_) (fun z => ?_)
    · have V := V.1 z
      refine e_iconst (v := 0) fR_order_119 (by decide) ?_
      exact Ev.widen (by decide) (by decide) (Ev.loc [0, 1, 2, 3, 4, 5] rfl (KJ4 _ V))
    · have V := V.2 z
      refine e_iconst (v := 2) fR_order_115 (by decide) ?_
      refine e_goto (tgt := 120) fR_order_116 (by decide) ?_
      exact Ev.widen (by decide) (by decide) (Ev.loc [0, 1, 2, 3, 4, 5] rfl (KJ4 _ V))
  · have V := V.2 z
    refine e_aload_n fR_order_72 rfl 0 rfl ?_
    obtain ⟨v10, gv10, V⟩ := V
    refine e_get fR_order_73 kR_7 gv10 ?_
    refine e_iload fR_order_76 5 rfl ?_
    obtain ⟨v11, g0, gv11, V⟩ := V
    refine e_iald fR_order_78 g0 gv11 ?_
    refine e_iload_n fR_order_79 rfl 1 rfl ?_
    refine e_icmp_ne (tgt := 99) fR_order_80 (by decide) (fun z => ?_) (fun z => ?_)
    · have V := V.1 z
      obtain ⟨x12, ex12⟩ : ∃ z : Int32, z = a5 + 1 := ⟨_, rfl⟩
      have V := V x12 ex12
      refine e_iinc (v := x12) (k := 5) (ls' := [(5, .int x12), (0, .ref a0), (1, .int a1), (2, .int a2), (3, .int a3), (4, .int a4)]) fR_order_99 rfl (by rw [ex12]; rfl) (by decide) rfl ?_
      refine e_goto (tgt := 63) fR_order_102 (by decide) ?_
      exact Ev.loc [1, 2, 3, 4, 5, 0] rfl V
    · have V := V.2 z
      refine e_aload_n fR_order_83 rfl 0 rfl ?_
      obtain ⟨v13, gv13, V⟩ := V
      refine e_get fR_order_84 kR_13 gv13 ?_
      refine e_iload fR_order_87 5 rfl ?_
      obtain ⟨v14, g0, gv14, V⟩ := V
      refine e_iald fR_order_89 g0 gv14 ?_
      refine e_iload_n fR_order_90 rfl 2 rfl ?_
      refine e_icmp_ne (tgt := 99) fR_order_91 (by decide) (fun z => ?_) (fun z => ?_)
      · have V := V.1 z
        obtain ⟨x15, ex15⟩ : ∃ z : Int32, z = a5 + 1 := ⟨_, rfl⟩
        have V := V x15 ex15
        refine e_iinc (v := x15) (k := 5) (ls' := [(5, .int x15), (0, .ref a0), (1, .int a1), (2, .int a2), (3, .int a3), (4, .int a4)]) fR_order_99 rfl (by rw [ex15]; rfl) (by decide) rfl ?_
        refine e_goto (tgt := 63) fR_order_102 (by decide) ?_
        exact Ev.loc [1, 2, 3, 4, 5, 0] rfl V
      · have V := V.2 z
        refine e_iconst (v := -1) fR_order_94 (by decide) ?_
        refine e_iload fR_order_95 5 rfl ?_
        refine e_isub fR_order_97 ?_
        exact e_iret fR_order_98 rfl V
set_option maxRecDepth 20000 in
theorem vR_order {l : Launch} {G : ev_G} {h : ev_AH} {P : ev_Post} {p0 : Nat} {p1 : Int32} {p2 : Int32} {p3 : Int32} {p4 : Int32} (V : ∃ J5 : Int32 → Prop, J5 = (fun (j4 : Int32) => ∃ w6 : Value, ev_f h p0 4 0 = some w6 ∧ ∀ h7 : ev_AH, h7 = ev_s h p0 0 (.int j4) → ∃ v8 : Int32, ev_f h7 p0 4 0 = some (.int v8) ∧ ((v8 ≤ 0 → Ev l G M_R_order 63 [(0, .ref p0), (1, .int p1), (2, .int p2), (3, .int p3), (4, .int p4), (5, .int 0)] [] h7 0 0 (ev_fin G M_R_order P)) ∧ (¬ v8 ≤ 0 → P (.inl (some (.int 0))) h7))) ∧ (((ev_b (0 ≤ p1 ∧ p1 ≤ 7)) = 0 → J5 1) ∧ (¬ (ev_b (0 ≤ p1 ∧ p1 ≤ 7)) = 0 → (((ev_b (1 ≤ p2 ∧ p2 ≤ 99999)) = 0 → J5 1) ∧ (¬ (ev_b (1 ≤ p2 ∧ p2 ≤ 99999)) = 0 → (((ev_b (1 ≤ p3 ∧ p3 ≤ 9)) = 0 → J5 1) ∧ (¬ (ev_b (1 ≤ p3 ∧ p3 ≤ 9)) = 0 → (((ev_b (0 ≤ p4 ∧ p4 ≤ 10000)) = 0 → J5 1) ∧ (¬ (ev_b (0 ≤ p4 ∧ p4 ≤ 10000)) = 0 → J5 0))))))))) : Mt l G M_R_order [.ref p0, .int p1, .int p2, .int p3, .int p4] h P := by
  refine Mt.of rfl rfl (Nat.le_of_ble_eq_true rfl) ?_
  show Ev l G M_R_order 0 [(0, .ref p0), (1, .int p1), (2, .int p2), (3, .int p3), (4, .int p4)] [] h 0 0 (ev_fin G M_R_order P)
  refine e_aload_n fR_order_0 rfl 0 rfl ?_
  refine e_iload_n fR_order_1 rfl 1 rfl ?_
  refine e_iconst (v := 0) fR_order_2 (by decide) ?_
  refine e_bipush (v := 7) fR_order_3 (by decide) ?_
  refine e_callSi (uc' := 0) (us' := 0) (st := [.ref p0]) fR_order_5 wR_order_5 rfl rfl sp_R_in (Nat.le_of_ble_eq_true rfl) (by decide) (by decide) (fun r3 h2 ga => ?_) (fun E h2 gx => False.elim gx)
  obtain ⟨rfl, ge⟩ := ga
  replace ge := ge.symm
  subst ge
  obtain ⟨J5, VJ5, V⟩ := V
  have KJ5 : ∀ (j4 : Int32), J5 j4 → Ev l G M_R_order 48 [(0, .ref p0), (1, .int p1), (2, .int p2), (3, .int p3), (4, .int p4)] [.int j4, .ref p0] h 0 0 (ev_fin G M_R_order P) := by
    intro j4 hj
    have V := Eq.mp (congrFun VJ5 j4) hj
    obtain ⟨w6, gw6, V⟩ := V
    refine e_put fR_order_48 pR_71 gw6 rfl rfl (fun h7 eh7 => ?_)
    have V := V h7 eh7
    refine e_aload_n fR_order_51 rfl 0 rfl ?_
    obtain ⟨v8, gv8, V⟩ := V
    refine e_get fR_order_52 kR_71 gv8 ?_
    refine e_if_le (tgt := 60) fR_order_55 (by decide) (fun z => ?_) (fun z => ?_)
    · have V := V.1 z
      refine e_iconst (v := 0) fR_order_60 (by decide) ?_
      refine e_istore (ls' := [(5, .int 0), (0, .ref p0), (1, .int p1), (2, .int p2), (3, .int p3), (4, .int p4)]) fR_order_61 (by decide) rfl ?_
      exact Ev.loc [1, 2, 3, 4, 5, 0] rfl V
    · have V := V.2 z
      refine e_iconst (v := 0) fR_order_58 (by decide) ?_
      exact e_iret fR_order_59 rfl V
  refine e_if_eq (tgt := 47) fR_order_8 (by decide) (fun z => ?_) (fun z => ?_)
  · have V := V.1 z
    refine e_iconst (v := 1) fR_order_47 (by decide) ?_
    exact Ev.widen (by decide) (by decide) (Ev.loc [0, 1, 2, 3, 4] rfl (KJ5 _ V))
  · have V := V.2 z
    refine e_iload_n fR_order_11 rfl 2 rfl ?_
    refine e_iconst (v := 1) fR_order_12 (by decide) ?_
    refine e_ldc (v := 99999) fR_order_13 iR_85 ?_
    refine e_callSi (uc' := 0) (us' := 0) (st := [.ref p0]) fR_order_15 wR_order_15 rfl rfl sp_R_in (Nat.le_of_ble_eq_true rfl) (by decide) (by decide) (fun r11 h10 ga => ?_) (fun E h10 gx => False.elim gx)
    obtain ⟨rfl, ge⟩ := ga
    replace ge := ge.symm
    subst ge
    refine e_if_eq (tgt := 47) fR_order_18 (by decide) (fun z => ?_) (fun z => ?_)
    · have V := V.1 z
      refine e_iconst (v := 1) fR_order_47 (by decide) ?_
      exact Ev.widen (by decide) (by decide) (Ev.loc [0, 1, 2, 3, 4] rfl (KJ5 _ V))
    · have V := V.2 z
      refine e_iload_n fR_order_21 rfl 3 rfl ?_
      refine e_iconst (v := 1) fR_order_22 (by decide) ?_
      refine e_bipush (v := 9) fR_order_23 (by decide) ?_
      refine e_callSi (uc' := 0) (us' := 0) (st := [.ref p0]) fR_order_25 wR_order_25 rfl rfl sp_R_in (Nat.le_of_ble_eq_true rfl) (by decide) (by decide) (fun r14 h13 ga => ?_) (fun E h13 gx => False.elim gx)
      obtain ⟨rfl, ge⟩ := ga
      replace ge := ge.symm
      subst ge
      refine e_if_eq (tgt := 47) fR_order_28 (by decide) (fun z => ?_) (fun z => ?_)
      · have V := V.1 z
        refine e_iconst (v := 1) fR_order_47 (by decide) ?_
        exact Ev.widen (by decide) (by decide) (Ev.loc [0, 1, 2, 3, 4] rfl (KJ5 _ V))
      · have V := V.2 z
        refine e_iload fR_order_31 4 rfl ?_
        refine e_iconst (v := 0) fR_order_33 (by decide) ?_
        refine e_sipush (v := 10000) fR_order_34 (by decide) ?_
        refine e_callSi (uc' := 0) (us' := 0) (st := [.ref p0]) fR_order_37 wR_order_37 rfl rfl sp_R_in (Nat.le_of_ble_eq_true rfl) (by decide) (by decide) (fun r17 h16 ga => ?_) (fun E h16 gx => False.elim gx)
        obtain ⟨rfl, ge⟩ := ga
        replace ge := ge.symm
        subst ge
        refine e_if_eq (tgt := 47) fR_order_40 (by decide) (fun z => ?_) (fun z => ?_)
        · have V := V.1 z
          refine e_iconst (v := 1) fR_order_47 (by decide) ?_
          exact Ev.widen (by decide) (by decide) (Ev.loc [0, 1, 2, 3, 4] rfl (KJ5 _ V))
        · have V := V.2 z
          refine e_iconst (v := 0) fR_order_43 (by decide) ?_
          refine e_goto (tgt := 48) fR_order_44 (by decide) ?_
          exact Ev.widen (by decide) (by decide) (Ev.loc [0, 1, 2, 3, 4] rfl (KJ5 _ V))
set_option maxRecDepth 20000 in
theorem vR_hang {l : Launch} {G : ev_G} {h : ev_AH} {P : ev_Post} {p0 : Nat} {p1 : Int32} {p2 : Int32} (V : ∃ v1 : Nat, ev_f h p0 4 11 = some (.ref v1) ∧ ∃ v2 : Nat, ev_f h p0 4 10 = some (.ref v2) ∧ ∃ v3 : Int32, ¬ p1 < 0 ∧ ev_f h v2 100 (Int32.toNatClampNeg p1) = some (.int v3) ∧ ∃ w4 : Value, ¬ ((8 * p1) + v3) < 0 ∧ ev_f h v1 100 (Int32.toNatClampNeg ((8 * p1) + v3)) = some w4 ∧ ∀ h5 : ev_AH, h5 = ev_s h v1 (Int32.toNatClampNeg ((8 * p1) + v3)) (.int p2) → ∃ v6 : Nat, ev_f h5 p0 4 10 = some (.ref v6) ∧ ∃ v7 : Int32, ¬ p1 < 0 ∧ ev_f h5 v6 100 (Int32.toNatClampNeg p1) = some (.int v7) ∧ ∃ w8 : Value, ¬ p1 < 0 ∧ ev_f h5 v6 100 (Int32.toNatClampNeg p1) = some w8 ∧ ∀ h9 : ev_AH, h9 = ev_s h5 v6 (Int32.toNatClampNeg p1) (.int (v7 + 1)) → ∃ v10 : Nat, ev_f h9 p0 4 13 = some (.ref v10) ∧ ∃ w11 : Value, ¬ p2 < 0 ∧ ev_f h9 v10 100 (Int32.toNatClampNeg p2) = some w11 ∧ ∀ h12 : ev_AH, h12 = ev_s h9 v10 (Int32.toNatClampNeg p2) (.int p1) → P (.inl none) h12) : Mt l G M_R_hang [.ref p0, .int p1, .int p2] h P := by
  refine Mt.of rfl rfl (Nat.le_of_ble_eq_true rfl) ?_
  show Ev l G M_R_hang 0 [(0, .ref p0), (1, .int p1), (2, .int p2)] [] h 0 0 (ev_fin G M_R_hang P)
  refine e_aload_n fR_hang_0 rfl 0 rfl ?_
  obtain ⟨v1, gv1, V⟩ := V
  refine e_get fR_hang_1 kR_37 gv1 ?_
  refine e_bipush (v := 8) fR_hang_4 (by decide) ?_
  refine e_iload_n fR_hang_6 rfl 1 rfl ?_
  refine e_imul fR_hang_7 ?_
  refine e_aload_n fR_hang_8 rfl 0 rfl ?_
  obtain ⟨v2, gv2, V⟩ := V
  refine e_get fR_hang_9 kR_34 gv2 ?_
  refine e_iload_n fR_hang_12 rfl 1 rfl ?_
  obtain ⟨v3, g0, gv3, V⟩ := V
  refine e_iald fR_hang_13 g0 gv3 ?_
  refine e_iadd fR_hang_14 ?_
  refine e_iload_n fR_hang_15 rfl 2 rfl ?_
  obtain ⟨w4, g0, gw4, V⟩ := V
  refine e_iast fR_hang_16 g0 gw4 (fun h5 eh5 => ?_)
  have V := V h5 eh5
  refine e_aload_n fR_hang_17 rfl 0 rfl ?_
  obtain ⟨v6, gv6, V⟩ := V
  refine e_get fR_hang_18 kR_34 gv6 ?_
  refine e_iload_n fR_hang_21 rfl 1 rfl ?_
  refine e_dup2 fR_hang_22 rfl rfl ?_
  obtain ⟨v7, g0, gv7, V⟩ := V
  refine e_iald fR_hang_23 g0 gv7 ?_
  refine e_iconst (v := 1) fR_hang_24 (by decide) ?_
  refine e_iadd fR_hang_25 ?_
  obtain ⟨w8, g0, gw8, V⟩ := V
  refine e_iast fR_hang_26 g0 gw8 (fun h9 eh9 => ?_)
  have V := V h9 eh9
  refine e_aload_n fR_hang_27 rfl 0 rfl ?_
  obtain ⟨v10, gv10, V⟩ := V
  refine e_get fR_hang_28 kR_40 gv10 ?_
  refine e_iload_n fR_hang_31 rfl 2 rfl ?_
  refine e_iload_n fR_hang_32 rfl 1 rfl ?_
  obtain ⟨w11, g0, gw11, V⟩ := V
  refine e_iast fR_hang_33 g0 gw11 (fun h12 eh12 => ?_)
  have V := V h12 eh12
  exact e_vret fR_hang_34 rfl V
set_option maxRecDepth 20000 in
theorem vR_newLine {l : Launch} {G : ev_G} {h : ev_AH} {P : ev_Post} {p0 : Nat} {p1 : Int32} {p2 : Int32} {p3 : Int32} {p4 : Int32} (V : ∃ v1 : Nat, ev_f h p0 4 14 = some (.ref v1) ∧ ∃ v2 : Int32, ev_f h p0 4 12 = some (.int v2) ∧ ∃ w3 : Value, ¬ v2 < 0 ∧ ev_f h v1 100 (Int32.toNatClampNeg v2) = some w3 ∧ ∀ h4 : ev_AH, h4 = ev_s h v1 (Int32.toNatClampNeg v2) (.int p2) → ∃ v5 : Nat, ev_f h4 p0 4 15 = some (.ref v5) ∧ ∃ v6 : Int32, ev_f h4 p0 4 12 = some (.int v6) ∧ ∃ w7 : Value, ¬ v6 < 0 ∧ ev_f h4 v5 100 (Int32.toNatClampNeg v6) = some w7 ∧ ∀ h8 : ev_AH, h8 = ev_s h4 v5 (Int32.toNatClampNeg v6) (.int (-1)) → ∃ v9 : Nat, ev_f h8 p0 4 16 = some (.ref v9) ∧ ∃ v10 : Int32, ev_f h8 p0 4 12 = some (.int v10) ∧ ∃ w11 : Value, ¬ v10 < 0 ∧ ev_f h8 v9 100 (Int32.toNatClampNeg v10) = some w11 ∧ ∀ h12 : ev_AH, h12 = ev_s h8 v9 (Int32.toNatClampNeg v10) (.int p4) → ∃ v13 : Nat, ev_f h12 p0 4 17 = some (.ref v13) ∧ ∃ v14 : Int32, ev_f h12 p0 4 12 = some (.int v14) ∧ ∃ w15 : Value, ¬ v14 < 0 ∧ ev_f h12 v13 100 (Int32.toNatClampNeg v14) = some w15 ∧ ∀ h16 : ev_AH, h16 = ev_s h12 v13 (Int32.toNatClampNeg v14) (.int p3) → ∃ v17 : Nat, ev_f h16 p0 4 21 = some (.ref v17) ∧ ∃ v18 : Int32, ev_f h16 p0 4 12 = some (.int v18) ∧ ∃ w19 : Value, ¬ v18 < 0 ∧ ev_f h16 v17 101 (Int32.toNatClampNeg v18) = some w19 ∧ ∀ h20 : ev_AH, h20 = ev_s h16 v17 (Int32.toNatClampNeg v18) (narrow .boolean (.int 1)) → ∃ v21 : Int32, ev_f h20 p0 4 12 = some (.int v21) ∧ (∃ fs : List Value, h20 p0 = some (4, fs)) ∧ ∃ (A : ev_AH → Prop) (X : String → ev_AH → Prop), Mt l G M_R_hang [.ref p0, .int p1, .int v21] h20 (ev_pv A X) ∧ (∀ h22 : ev_AH, A h22 → ∃ v23 : Nat, ev_f h22 p0 4 8 = some (.ref v23) ∧ ∃ v24 : Int32, ¬ p1 < 0 ∧ ev_f h22 v23 100 (Int32.toNatClampNeg p1) = some (.int v24) ∧ ∃ w25 : Value, ¬ p1 < 0 ∧ ev_f h22 v23 100 (Int32.toNatClampNeg p1) = some w25 ∧ ∀ h26 : ev_AH, h26 = ev_s h22 v23 (Int32.toNatClampNeg p1) (.int (v24 + 1)) → ∃ v27 : Int32, ev_f h26 p0 4 12 = some (.int v27) ∧ ∃ w28 : Value, ev_f h26 p0 4 12 = some w28 ∧ ∀ h29 : ev_AH, h29 = ev_s h26 p0 12 (.int (v27 + 1)) → ∃ v30 : Int32, ev_f h29 p0 4 12 = some (.int v30) ∧ P (.inl (some (.int (v30 - 1)))) h29) ∧ (∀ (E : String) (h9 : ev_AH), X E h9 → P (.inr E) h9)) : Mt l G M_R_newLine [.ref p0, .int p1, .int p2, .int p3, .int p4] h P := by
  refine Mt.of rfl rfl (Nat.le_of_ble_eq_true rfl) ?_
  show Ev l G M_R_newLine 0 [(0, .ref p0), (1, .int p1), (2, .int p2), (3, .int p3), (4, .int p4)] [] h 0 0 (ev_fin G M_R_newLine P)
  refine e_aload_n fR_newLine_0 rfl 0 rfl ?_
  obtain ⟨v1, gv1, V⟩ := V
  refine e_get fR_newLine_1 kR_43 gv1 ?_
  refine e_aload_n fR_newLine_4 rfl 0 rfl ?_
  obtain ⟨v2, gv2, V⟩ := V
  refine e_get fR_newLine_5 kR_82 gv2 ?_
  refine e_iload_n fR_newLine_8 rfl 2 rfl ?_
  obtain ⟨w3, g0, gw3, V⟩ := V
  refine e_iast fR_newLine_9 g0 gw3 (fun h4 eh4 => ?_)
  have V := V h4 eh4
  refine e_aload_n fR_newLine_10 rfl 0 rfl ?_
  obtain ⟨v5, gv5, V⟩ := V
  refine e_get fR_newLine_11 kR_46 gv5 ?_
  refine e_aload_n fR_newLine_14 rfl 0 rfl ?_
  obtain ⟨v6, gv6, V⟩ := V
  refine e_get fR_newLine_15 kR_82 gv6 ?_
  refine e_iconst (v := -1) fR_newLine_18 (by decide) ?_
  obtain ⟨w7, g0, gw7, V⟩ := V
  refine e_iast fR_newLine_19 g0 gw7 (fun h8 eh8 => ?_)
  have V := V h8 eh8
  refine e_aload_n fR_newLine_20 rfl 0 rfl ?_
  obtain ⟨v9, gv9, V⟩ := V
  refine e_get fR_newLine_21 kR_49 gv9 ?_
  refine e_aload_n fR_newLine_24 rfl 0 rfl ?_
  obtain ⟨v10, gv10, V⟩ := V
  refine e_get fR_newLine_25 kR_82 gv10 ?_
  refine e_iload fR_newLine_28 4 rfl ?_
  obtain ⟨w11, g0, gw11, V⟩ := V
  refine e_iast fR_newLine_30 g0 gw11 (fun h12 eh12 => ?_)
  have V := V h12 eh12
  refine e_aload_n fR_newLine_31 rfl 0 rfl ?_
  obtain ⟨v13, gv13, V⟩ := V
  refine e_get fR_newLine_32 kR_52 gv13 ?_
  refine e_aload_n fR_newLine_35 rfl 0 rfl ?_
  obtain ⟨v14, gv14, V⟩ := V
  refine e_get fR_newLine_36 kR_82 gv14 ?_
  refine e_iload_n fR_newLine_39 rfl 3 rfl ?_
  obtain ⟨w15, g0, gw15, V⟩ := V
  refine e_iast fR_newLine_40 g0 gw15 (fun h16 eh16 => ?_)
  have V := V h16 eh16
  refine e_aload_n fR_newLine_41 rfl 0 rfl ?_
  obtain ⟨v17, gv17, V⟩ := V
  refine e_get fR_newLine_42 kR_64 gv17 ?_
  refine e_aload_n fR_newLine_45 rfl 0 rfl ?_
  obtain ⟨v18, gv18, V⟩ := V
  refine e_get fR_newLine_46 kR_82 gv18 ?_
  refine e_iconst (v := 1) fR_newLine_49 (by decide) ?_
  obtain ⟨w19, g0, gw19, V⟩ := V
  refine e_zast fR_newLine_50 g0 gw19 (fun h20 eh20 => ?_)
  have V := V h20 eh20
  refine e_aload_n fR_newLine_51 rfl 0 rfl ?_
  refine e_iload_n fR_newLine_52 rfl 1 rfl ?_
  refine e_aload_n fR_newLine_53 rfl 0 rfl ?_
  obtain ⟨v21, gv21, V⟩ := V
  refine e_get fR_newLine_54 kR_82 gv21 ?_
  obtain ⟨gc, V⟩ := V
  obtain ⟨A, X, hm, V, VX⟩ := V
  refine e_callVv (uc' := 0) (us' := 0) (st := []) fR_newLine_57 wR_newLine_57 rfl rfl gc hm (Nat.le_of_ble_eq_true rfl) (by decide) (by decide) (fun h22 ga => ?_) (fun E h22 gx => ?_)
  · have V := V _ ga
    refine e_aload_n fR_newLine_60 rfl 0 rfl ?_
    obtain ⟨v23, gv23, V⟩ := V
    refine e_get fR_newLine_61 kR_28 gv23 ?_
    refine e_iload_n fR_newLine_64 rfl 1 rfl ?_
    refine e_dup2 fR_newLine_65 rfl rfl ?_
    obtain ⟨v24, g0, gv24, V⟩ := V
    refine e_iald fR_newLine_66 g0 gv24 ?_
    refine e_iconst (v := 1) fR_newLine_67 (by decide) ?_
    refine e_iadd fR_newLine_68 ?_
    obtain ⟨w25, g0, gw25, V⟩ := V
    refine e_iast fR_newLine_69 g0 gw25 (fun h26 eh26 => ?_)
    have V := V h26 eh26
    refine e_aload_n fR_newLine_70 rfl 0 rfl ?_
    refine e_dup fR_newLine_71 rfl ?_
    obtain ⟨v27, gv27, V⟩ := V
    refine e_get fR_newLine_72 kR_82 gv27 ?_
    refine e_iconst (v := 1) fR_newLine_75 (by decide) ?_
    refine e_iadd fR_newLine_76 ?_
    obtain ⟨w28, gw28, V⟩ := V
    refine e_put fR_newLine_77 pR_82 gw28 rfl rfl (fun h29 eh29 => ?_)
    have V := V h29 eh29
    refine e_aload_n fR_newLine_80 rfl 0 rfl ?_
    obtain ⟨v30, gv30, V⟩ := V
    refine e_get fR_newLine_81 kR_82 gv30 ?_
    refine e_iconst (v := 1) fR_newLine_84 (by decide) ?_
    refine e_isub fR_newLine_85 ?_
    exact e_iret fR_newLine_86 rfl V
  · exact e_out (by decide) (VX E _ gx)
set_option maxRecDepth 20000 in
theorem vR_line {l : Launch} {G : ev_G} {h : ev_AH} {P : ev_Post} {p0 : Nat} {p1 : Int32} {p2 : Int32} {p3 : Int32} {p4 : Int32} (V : ∃ v2 : Int32, ev_f h p0 4 1 = some (.int v2) ∧ (∃ fs : List Value, h p0 = some (4, fs)) ∧ ∃ J6 : Int32 → Prop, J6 = (fun (j5 : Int32) => ∃ w7 : Value, ev_f h p0 4 0 = some w7 ∧ ∀ h8 : ev_AH, h8 = ev_s h p0 0 (.int j5) → ∃ v9 : Int32, ev_f h8 p0 4 0 = some (.int v9) ∧ ∃ J11 : ev_AH → Prop, J11 = (fun (h10 : ev_AH) => ∃ v12 : Int32, ev_f h10 p0 4 0 = some (.int v12) ∧ ((v12 ≤ 0 → (∃ fs : List Value, h10 p0 = some (4, fs)) ∧ ∃ (A : Int32 → ev_AH → Prop) (X : String → ev_AH → Prop), Mt l G M_R_newLine [.ref p0, .int p1, .int p2, .int p3, .int p4] h10 (ev_pi A X) ∧ (∀ (r14 : Int32) (h13 : ev_AH), A r14 h13 → P (.inl (some (.int r14))) h13) ∧ (∀ (E : String) (h9 : ev_AH), X E h9 → P (.inr E) h9)) ∧ (¬ v12 ≤ 0 → P (.inl (some (.int 0))) h10))) ∧ ((¬ v9 = 0 → J11 h8) ∧ (v9 = 0 → ∃ v15 : Nat, ev_f h8 p0 4 6 = some (.ref v15) ∧ ∃ v16 : Int32, ¬ p1 < 0 ∧ ev_f h8 v15 100 (Int32.toNatClampNeg p1) = some (.int v16) ∧ ∃ J18 : Int32 → Prop, J18 = (fun (j17 : Int32) => ∃ w19 : Value, ev_f h8 p0 4 0 = some w19 ∧ ∀ h20 : ev_AH, h20 = ev_s h8 p0 0 (.int j17) → J11 h20) ∧ ((v16 = 0 → ∃ v21 : Int32, ev_f h8 p0 4 12 = some (.int v21) ∧ ((v21 = 60 → J18 4) ∧ (¬ v21 = 60 → ∃ v22 : Nat, ev_f h8 p0 4 10 = some (.ref v22) ∧ ∃ v23 : Int32, ¬ p1 < 0 ∧ ev_f h8 v22 100 (Int32.toNatClampNeg p1) = some (.int v23) ∧ ((¬ v23 = 8 → J18 0) ∧ (v23 = 8 → J18 4))))) ∧ (¬ v16 = 0 → J18 3))))) ∧ ((¬ (ev_b (0 ≤ p1 ∧ p1 ≤ v2 - 1)) = 0 → (((ev_b (0 ≤ p2 ∧ p2 ≤ 15)) = 0 → J6 2) ∧ (¬ (ev_b (0 ≤ p2 ∧ p2 ≤ 15)) = 0 → (((ev_b (1 ≤ p3 ∧ p3 ≤ 1000)) = 0 → J6 2) ∧ (¬ (ev_b (1 ≤ p3 ∧ p3 ≤ 1000)) = 0 → ((¬ (ev_b (0 ≤ p4 ∧ p4 ≤ 7)) = 0 → J6 0) ∧ ((ev_b (0 ≤ p4 ∧ p4 ≤ 7)) = 0 → J6 2))))))) ∧ ((ev_b (0 ≤ p1 ∧ p1 ≤ v2 - 1)) = 0 → J6 1))) : Mt l G M_R_line [.ref p0, .int p1, .int p2, .int p3, .int p4] h P := by
  refine Mt.of rfl rfl (Nat.le_of_ble_eq_true rfl) ?_
  show Ev l G M_R_line 0 [(0, .ref p0), (1, .int p1), (2, .int p2), (3, .int p3), (4, .int p4)] [] h 0 0 (ev_fin G M_R_line P)
  refine e_aload_n fR_line_0 rfl 0 rfl ?_
  refine e_aload_n fR_line_1 rfl 0 rfl ?_
  refine e_iload_n fR_line_2 rfl 1 rfl ?_
  obtain ⟨v2, gv2, V⟩ := V
  obtain ⟨gc, V⟩ := V
  refine e_callVi (uc' := 0) (us' := 0) (st := [.ref p0]) fR_line_3 wR_line_3 rfl rfl gc (sp_R_isOrder gv2) (Nat.le_of_ble_eq_true rfl) (by decide) (by decide) (fun r4 h3 ga => ?_) (fun E h3 gx => False.elim gx)
  obtain ⟨rfl, ge⟩ := ga
  replace ge := ge.symm
  subst ge
  obtain ⟨J6, VJ6, V⟩ := V
  have KJ6 : ∀ (j5 : Int32), J6 j5 → Ev l G M_R_line 50 [(0, .ref p0), (1, .int p1), (2, .int p2), (3, .int p3), (4, .int p4)] [.int j5, .ref p0] h 0 0 (ev_fin G M_R_line P) := by
    intro j5 hj
    have V := Eq.mp (congrFun VJ6 j5) hj
    obtain ⟨w7, gw7, V⟩ := V
    refine e_put fR_line_50 pR_71 gw7 rfl rfl (fun h8 eh8 => ?_)
    have V := V h8 eh8
    refine e_aload_n fR_line_53 rfl 0 rfl ?_
    obtain ⟨v9, gv9, V⟩ := V
    refine e_get fR_line_54 kR_71 gv9 ?_
    obtain ⟨J11, VJ11, V⟩ := V
    have KJ11 : ∀ (h10 : ev_AH), J11 h10 → Ev l G M_R_line 102 [(0, .ref p0), (1, .int p1), (2, .int p2), (3, .int p3), (4, .int p4)] [] h10 0 0 (ev_fin G M_R_line P) := by
      intro h10 hj
      have V := Eq.mp (congrFun VJ11 h10) hj
      refine e_aload_n fR_line_102 rfl 0 rfl ?_
      obtain ⟨v12, gv12, V⟩ := V
      refine e_get fR_line_103 kR_71 gv12 ?_
      refine e_if_le (tgt := 113) fR_line_106 (by decide) (fun z => ?_) (fun z => ?_)
      · have V := V.1 z
        refine e_aload_n fR_line_113 rfl 0 rfl ?_
        refine e_iload_n fR_line_114 rfl 1 rfl ?_
        refine e_iload_n fR_line_115 rfl 2 rfl ?_
        refine e_iload_n fR_line_116 rfl 3 rfl ?_
        refine e_iload fR_line_117 4 rfl ?_
        obtain ⟨gc, V⟩ := V
        obtain ⟨A, X, hm, V, VX⟩ := V
        refine e_callVi (uc' := 0) (us' := 0) (st := []) fR_line_119 wR_line_119 rfl rfl gc hm (Nat.le_of_ble_eq_true rfl) (by decide) (by decide) (fun r14 h13 ga => ?_) (fun E h13 gx => ?_)
        · have V := V _ _ ga
          exact e_iret fR_line_122 rfl V
        · exact e_out (by decide) (VX E _ gx)
      · have V := V.2 z
        refine e_iconst (v := 0) fR_line_109 (by decide) ?_
        refine e_goto (tgt := 122) fR_line_110 (by decide) ?_
        exact e_iret fR_line_122 rfl V
    refine e_if_ne (tgt := 102) fR_line_57 (by decide) (fun z => ?_) (fun z => ?_)
    · have V := V.1 z
      exact Ev.widen (by decide) (by decide) (Ev.loc [0, 1, 2, 3, 4] rfl (KJ11 _ V))
    · have V := V.2 z
      refine e_aload_n fR_line_60 rfl 0 rfl ?_
      refine e_aload_n fR_line_61 rfl 0 rfl ?_
      obtain ⟨v15, gv15, V⟩ := V
      refine e_get fR_line_62 kR_22 gv15 ?_
      refine e_iload_n fR_line_65 rfl 1 rfl ?_
      obtain ⟨v16, g0, gv16, V⟩ := V
      refine e_iald fR_line_66 g0 gv16 ?_
      obtain ⟨J18, VJ18, V⟩ := V
      have KJ18 : ∀ (j17 : Int32), J18 j17 → Ev l G M_R_line 99 [(0, .ref p0), (1, .int p1), (2, .int p2), (3, .int p3), (4, .int p4)] [.int j17, .ref p0] h8 0 0 (ev_fin G M_R_line P) := by
        intro j17 hj
        have V := Eq.mp (congrFun VJ18 j17) hj
        obtain ⟨w19, gw19, V⟩ := V
        refine e_put fR_line_99 pR_71 gw19 rfl rfl (fun h20 eh20 => ?_)
        have V := V h20 eh20
        exact Ev.widen (by decide) (by decide) (Ev.loc [0, 1, 2, 3, 4] rfl (KJ11 _ V))
      refine e_if_eq (tgt := 74) fR_line_67 (by decide) (fun z => ?_) (fun z => ?_)
      · have V := V.1 z
        refine e_aload_n fR_line_74 rfl 0 rfl ?_
        obtain ⟨v21, gv21, V⟩ := V
        refine e_get fR_line_75 kR_82 gv21 ?_
        refine e_bipush (v := 60) fR_line_78 (by decide) ?_
        refine e_icmp_eq (tgt := 94) fR_line_80 (by decide) (fun z => ?_) (fun z => ?_)
        · have V := V.1 z
          refine e_iconst (v := 4) fR_line_94 (by decide) ?_
          refine e_goto (tgt := 99) fR_line_95 (by decide) ?_
          exact Ev.widen (by decide) (by decide) (Ev.loc [0, 1, 2, 3, 4] rfl (KJ18 _ V))
        · have V := V.2 z
          refine e_aload_n fR_line_83 rfl 0 rfl ?_
          obtain ⟨v22, gv22, V⟩ := V
          refine e_get fR_line_84 kR_34 gv22 ?_
          refine e_iload_n fR_line_87 rfl 1 rfl ?_
          obtain ⟨v23, g0, gv23, V⟩ := V
          refine e_iald fR_line_88 g0 gv23 ?_
          refine e_bipush (v := 8) fR_line_89 (by decide) ?_
          refine e_icmp_ne (tgt := 98) fR_line_91 (by decide) (fun z => ?_) (fun z => ?_)
          · have V := V.1 z
            refine e_iconst (v := 0) fR_line_98 (by decide) ?_
            exact Ev.widen (by decide) (by decide) (Ev.loc [0, 1, 2, 3, 4] rfl (KJ18 _ V))
          · have V := V.2 z
            refine e_iconst (v := 4) fR_line_94 (by decide) ?_
            refine e_goto (tgt := 99) fR_line_95 (by decide) ?_
            exact Ev.widen (by decide) (by decide) (Ev.loc [0, 1, 2, 3, 4] rfl (KJ18 _ V))
      · have V := V.2 z
        refine e_iconst (v := 3) fR_line_70 (by decide) ?_
        refine e_goto (tgt := 99) fR_line_71 (by decide) ?_
        exact Ev.widen (by decide) (by decide) (Ev.loc [0, 1, 2, 3, 4] rfl (KJ18 _ V))
  refine e_if_ne (tgt := 13) fR_line_6 (by decide) (fun z => ?_) (fun z => ?_)
  · have V := V.1 z
    refine e_iload_n fR_line_13 rfl 2 rfl ?_
    refine e_iconst (v := 0) fR_line_14 (by decide) ?_
    refine e_bipush (v := 15) fR_line_15 (by decide) ?_
    refine e_callSi (uc' := 0) (us' := 0) (st := [.ref p0]) fR_line_17 wR_line_17 rfl rfl sp_R_in (Nat.le_of_ble_eq_true rfl) (by decide) (by decide) (fun r26 h25 ga => ?_) (fun E h25 gx => False.elim gx)
    obtain ⟨rfl, ge⟩ := ga
    replace ge := ge.symm
    subst ge
    refine e_if_eq (tgt := 45) fR_line_20 (by decide) (fun z => ?_) (fun z => ?_)
    · have V := V.1 z
      refine e_iconst (v := 2) fR_line_45 (by decide) ?_
      refine e_goto (tgt := 50) fR_line_46 (by decide) ?_
      exact Ev.widen (by decide) (by decide) (Ev.loc [0, 1, 2, 3, 4] rfl (KJ6 _ V))
    · have V := V.2 z
      refine e_iload_n fR_line_23 rfl 3 rfl ?_
      refine e_iconst (v := 1) fR_line_24 (by decide) ?_
      refine e_sipush (v := 1000) fR_line_25 (by decide) ?_
      refine e_callSi (uc' := 0) (us' := 0) (st := [.ref p0]) fR_line_28 wR_line_28 rfl rfl sp_R_in (Nat.le_of_ble_eq_true rfl) (by decide) (by decide) (fun r29 h28 ga => ?_) (fun E h28 gx => False.elim gx)
      obtain ⟨rfl, ge⟩ := ga
      replace ge := ge.symm
      subst ge
      refine e_if_eq (tgt := 45) fR_line_31 (by decide) (fun z => ?_) (fun z => ?_)
      · have V := V.1 z
        refine e_iconst (v := 2) fR_line_45 (by decide) ?_
        refine e_goto (tgt := 50) fR_line_46 (by decide) ?_
        exact Ev.widen (by decide) (by decide) (Ev.loc [0, 1, 2, 3, 4] rfl (KJ6 _ V))
      · have V := V.2 z
        refine e_iload fR_line_34 4 rfl ?_
        refine e_iconst (v := 0) fR_line_36 (by decide) ?_
        refine e_bipush (v := 7) fR_line_37 (by decide) ?_
        refine e_callSi (uc' := 0) (us' := 0) (st := [.ref p0]) fR_line_39 wR_line_39 rfl rfl sp_R_in (Nat.le_of_ble_eq_true rfl) (by decide) (by decide) (fun r32 h31 ga => ?_) (fun E h31 gx => False.elim gx)
        obtain ⟨rfl, ge⟩ := ga
        replace ge := ge.symm
        subst ge
        refine e_if_ne (tgt := 49) fR_line_42 (by decide) (fun z => ?_) (fun z => ?_)
        · have V := V.1 z
          refine e_iconst (v := 0) fR_line_49 (by decide) ?_
          exact Ev.widen (by decide) (by decide) (Ev.loc [0, 1, 2, 3, 4] rfl (KJ6 _ V))
        · have V := V.2 z
          refine e_iconst (v := 2) fR_line_45 (by decide) ?_
          refine e_goto (tgt := 50) fR_line_46 (by decide) ?_
          exact Ev.widen (by decide) (by decide) (Ev.loc [0, 1, 2, 3, 4] rfl (KJ6 _ V))
  · have V := V.2 z
    refine e_iconst (v := 1) fR_line_9 (by decide) ?_
    refine e_goto (tgt := 50) fR_line_10 (by decide) ?_
    exact Ev.widen (by decide) (by decide) (Ev.loc [0, 1, 2, 3, 4] rfl (KJ6 _ V))
set_option maxRecDepth 20000 in
theorem vR_hold {l : Launch} {G : ev_G} {h : ev_AH} {P : ev_Post} {p0 : Nat} {p1 : Int32} {p2 : Int32} (V : ∃ v2 : Int32, ev_f h p0 4 12 = some (.int v2) ∧ (∃ fs : List Value, h p0 = some (4, fs)) ∧ ∃ J6 : Int32 → Prop, J6 = (fun (j5 : Int32) => ∃ w7 : Value, ev_f h p0 4 0 = some w7 ∧ ∀ h8 : ev_AH, h8 = ev_s h p0 0 (.int j5) → ∃ v9 : Int32, ev_f h8 p0 4 0 = some (.int v9) ∧ ∃ J11 : ev_AH → Prop, J11 = (fun (h10 : ev_AH) => ∃ v12 : Int32, ev_f h10 p0 4 0 = some (.int v12) ∧ ((v12 ≤ 0 → ∃ v13 : Nat, ev_f h10 p0 4 18 = some (.ref v13) ∧ ∃ v14 : Int32, ¬ p1 < 0 ∧ ev_f h10 v13 100 (Int32.toNatClampNeg p1) = some (.int v14) ∧ ∃ w15 : Value, ¬ p1 < 0 ∧ ev_f h10 v13 100 (Int32.toNatClampNeg p1) = some w15 ∧ ∀ h16 : ev_AH, h16 = ev_s h10 v13 (Int32.toNatClampNeg p1) (.int (v14 + p2)) → ∃ v17 : Nat, ev_f h16 p0 4 8 = some (.ref v17) ∧ ∃ v18 : Nat, ev_f h16 p0 4 13 = some (.ref v18) ∧ ∃ v19 : Int32, ¬ p1 < 0 ∧ ev_f h16 v18 100 (Int32.toNatClampNeg p1) = some (.int v19) ∧ ∃ v20 : Int32, ¬ v19 < 0 ∧ ev_f h16 v17 100 (Int32.toNatClampNeg v19) = some (.int v20) ∧ ∃ w21 : Value, ¬ v19 < 0 ∧ ev_f h16 v17 100 (Int32.toNatClampNeg v19) = some w21 ∧ ∀ h22 : ev_AH, h22 = ev_s h16 v17 (Int32.toNatClampNeg v19) (.int (v20 + 1)) → ∃ v23 : Nat, ev_f h22 p0 4 18 = some (.ref v23) ∧ ∃ v24 : Int32, ¬ p1 < 0 ∧ ev_f h22 v23 100 (Int32.toNatClampNeg p1) = some (.int v24) ∧ P (.inl (some (.int v24))) h22) ∧ (¬ v12 ≤ 0 → P (.inl (some (.int 0))) h10))) ∧ ((¬ v9 = 0 → J11 h8) ∧ (v9 = 0 → ∃ v25 : Nat, ev_f h8 p0 4 6 = some (.ref v25) ∧ ∃ v26 : Nat, ev_f h8 p0 4 13 = some (.ref v26) ∧ ∃ v27 : Int32, ¬ p1 < 0 ∧ ev_f h8 v26 100 (Int32.toNatClampNeg p1) = some (.int v27) ∧ ∃ v28 : Int32, ¬ v27 < 0 ∧ ev_f h8 v25 100 (Int32.toNatClampNeg v27) = some (.int v28) ∧ ∃ J30 : Int32 → Prop, J30 = (fun (j29 : Int32) => ∃ w31 : Value, ev_f h8 p0 4 0 = some w31 ∧ ∀ h32 : ev_AH, h32 = ev_s h8 p0 0 (.int j29) → J11 h32) ∧ ((1 < v28 → J30 3) ∧ (¬ 1 < v28 → ∃ v33 : Nat, ev_f h8 p0 4 21 = some (.ref v33) ∧ ∃ v34 : Int32, ¬ p1 < 0 ∧ ev_f h8 v33 101 (Int32.toNatClampNeg p1) = some (.int v34) ∧ ((v34 = 0 → J30 3) ∧ (¬ v34 = 0 → ∃ v35 : Nat, ev_f h8 p0 4 18 = some (.ref v35) ∧ ∃ v36 : Int32, ¬ p1 < 0 ∧ ev_f h8 v35 100 (Int32.toNatClampNeg p1) = some (.int v36) ∧ ∃ v37 : Nat, ev_f h8 p0 4 17 = some (.ref v37) ∧ ∃ v38 : Int32, ¬ p1 < 0 ∧ ev_f h8 v37 100 (Int32.toNatClampNeg p1) = some (.int v38) ∧ (((v36 + p2) ≤ v38 → J30 0) ∧ (¬ (v36 + p2) ≤ v38 → J30 3))))))))) ∧ ((¬ (ev_b (0 ≤ p1 ∧ p1 ≤ v2 - 1)) = 0 → ((¬ (ev_b (1 ≤ p2 ∧ p2 ≤ 1000)) = 0 → J6 0) ∧ ((ev_b (1 ≤ p2 ∧ p2 ≤ 1000)) = 0 → J6 2))) ∧ ((ev_b (0 ≤ p1 ∧ p1 ≤ v2 - 1)) = 0 → J6 1))) : Mt l G M_R_hold [.ref p0, .int p1, .int p2] h P := by
  refine Mt.of rfl rfl (Nat.le_of_ble_eq_true rfl) ?_
  show Ev l G M_R_hold 0 [(0, .ref p0), (1, .int p1), (2, .int p2)] [] h 0 0 (ev_fin G M_R_hold P)
  refine e_aload_n fR_hold_0 rfl 0 rfl ?_
  refine e_aload_n fR_hold_1 rfl 0 rfl ?_
  refine e_iload_n fR_hold_2 rfl 1 rfl ?_
  obtain ⟨v2, gv2, V⟩ := V
  obtain ⟨gc, V⟩ := V
  refine e_callVi (uc' := 0) (us' := 0) (st := [.ref p0]) fR_hold_3 wR_hold_3 rfl rfl gc (sp_R_isLine gv2) (Nat.le_of_ble_eq_true rfl) (by decide) (by decide) (fun r4 h3 ga => ?_) (fun E h3 gx => False.elim gx)
  obtain ⟨rfl, ge⟩ := ga
  replace ge := ge.symm
  subst ge
  obtain ⟨J6, VJ6, V⟩ := V
  have KJ6 : ∀ (j5 : Int32), J6 j5 → Ev l G M_R_hold 29 [(0, .ref p0), (1, .int p1), (2, .int p2)] [.int j5, .ref p0] h 0 0 (ev_fin G M_R_hold P) := by
    intro j5 hj
    have V := Eq.mp (congrFun VJ6 j5) hj
    obtain ⟨w7, gw7, V⟩ := V
    refine e_put fR_hold_29 pR_71 gw7 rfl rfl (fun h8 eh8 => ?_)
    have V := V h8 eh8
    refine e_aload_n fR_hold_32 rfl 0 rfl ?_
    obtain ⟨v9, gv9, V⟩ := V
    refine e_get fR_hold_33 kR_71 gv9 ?_
    obtain ⟨J11, VJ11, V⟩ := V
    have KJ11 : ∀ (h10 : ev_AH), J11 h10 → Ev l G M_R_hold 89 [(0, .ref p0), (1, .int p1), (2, .int p2)] [] h10 0 0 (ev_fin G M_R_hold P) := by
      intro h10 hj
      have V := Eq.mp (congrFun VJ11 h10) hj
      refine e_aload_n fR_hold_89 rfl 0 rfl ?_
      obtain ⟨v12, gv12, V⟩ := V
      refine e_get fR_hold_90 kR_71 gv12 ?_
      refine e_if_le (tgt := 98) fR_hold_93 (by decide) (fun z => ?_) (fun z => ?_)
      · have V := V.1 z
        refine e_aload_n fR_hold_98 rfl 0 rfl ?_
        obtain ⟨v13, gv13, V⟩ := V
        refine e_get fR_hold_99 kR_55 gv13 ?_
        refine e_iload_n fR_hold_102 rfl 1 rfl ?_
        refine e_dup2 fR_hold_103 rfl rfl ?_
        obtain ⟨v14, g0, gv14, V⟩ := V
        refine e_iald fR_hold_104 g0 gv14 ?_
        refine e_iload_n fR_hold_105 rfl 2 rfl ?_
        refine e_iadd fR_hold_106 ?_
        obtain ⟨w15, g0, gw15, V⟩ := V
        refine e_iast fR_hold_107 g0 gw15 (fun h16 eh16 => ?_)
        have V := V h16 eh16
        refine e_aload_n fR_hold_108 rfl 0 rfl ?_
        obtain ⟨v17, gv17, V⟩ := V
        refine e_get fR_hold_109 kR_28 gv17 ?_
        refine e_aload_n fR_hold_112 rfl 0 rfl ?_
        obtain ⟨v18, gv18, V⟩ := V
        refine e_get fR_hold_113 kR_40 gv18 ?_
        refine e_iload_n fR_hold_116 rfl 1 rfl ?_
        obtain ⟨v19, g0, gv19, V⟩ := V
        refine e_iald fR_hold_117 g0 gv19 ?_
        refine e_dup2 fR_hold_118 rfl rfl ?_
        obtain ⟨v20, g0, gv20, V⟩ := V
        refine e_iald fR_hold_119 g0 gv20 ?_
        refine e_iconst (v := 1) fR_hold_120 (by decide) ?_
        refine e_iadd fR_hold_121 ?_
        obtain ⟨w21, g0, gw21, V⟩ := V
        refine e_iast fR_hold_122 g0 gw21 (fun h22 eh22 => ?_)
        have V := V h22 eh22
        refine e_aload_n fR_hold_123 rfl 0 rfl ?_
        obtain ⟨v23, gv23, V⟩ := V
        refine e_get fR_hold_124 kR_55 gv23 ?_
        refine e_iload_n fR_hold_127 rfl 1 rfl ?_
        obtain ⟨v24, g0, gv24, V⟩ := V
        refine e_iald fR_hold_128 g0 gv24 ?_
        exact e_iret fR_hold_129 rfl V
      · have V := V.2 z
        refine e_iconst (v := 0) fR_hold_96 (by decide) ?_
        exact e_iret fR_hold_97 rfl V
    refine e_if_ne (tgt := 89) fR_hold_36 (by decide) (fun z => ?_) (fun z => ?_)
    · have V := V.1 z
      exact Ev.widen (by decide) (by decide) (Ev.loc [0, 1, 2] rfl (KJ11 _ V))
    · have V := V.2 z
      refine e_aload_n fR_hold_39 rfl 0 rfl ?_
      refine e_aload_n fR_hold_40 rfl 0 rfl ?_
      obtain ⟨v25, gv25, V⟩ := V
      refine e_get fR_hold_41 kR_22 gv25 ?_
      refine e_aload_n fR_hold_44 rfl 0 rfl ?_
      obtain ⟨v26, gv26, V⟩ := V
      refine e_get fR_hold_45 kR_40 gv26 ?_
      refine e_iload_n fR_hold_48 rfl 1 rfl ?_
      obtain ⟨v27, g0, gv27, V⟩ := V
      refine e_iald fR_hold_49 g0 gv27 ?_
      obtain ⟨v28, g0, gv28, V⟩ := V
      refine e_iald fR_hold_50 g0 gv28 ?_
      refine e_iconst (v := 1) fR_hold_51 (by decide) ?_
      obtain ⟨J30, VJ30, V⟩ := V
      have KJ30 : ∀ (j29 : Int32), J30 j29 → Ev l G M_R_hold 86 [(0, .ref p0), (1, .int p1), (2, .int p2)] [.int j29, .ref p0] h8 0 0 (ev_fin G M_R_hold P) := by
        intro j29 hj
        have V := Eq.mp (congrFun VJ30 j29) hj
        obtain ⟨w31, gw31, V⟩ := V
        refine e_put fR_hold_86 pR_71 gw31 rfl rfl (fun h32 eh32 => ?_)
        have V := V h32 eh32
        exact Ev.widen (by decide) (by decide) (Ev.loc [0, 1, 2] rfl (KJ11 _ V))
      refine e_icmp_gt (tgt := 81) fR_hold_52 (by decide) (fun z => ?_) (fun z => ?_)
      · have V := V.1 z
        refine e_iconst (v := 3) fR_hold_81 (by decide) ?_
        refine e_goto (tgt := 86) fR_hold_82 (by decide) ?_
        exact Ev.widen (by decide) (by decide) (Ev.loc [0, 1, 2] rfl (KJ30 _ V))
      · have V := V.2 z
        refine e_aload_n fR_hold_55 rfl 0 rfl ?_
        obtain ⟨v33, gv33, V⟩ := V
        refine e_get fR_hold_56 kR_64 gv33 ?_
        refine e_iload_n fR_hold_59 rfl 1 rfl ?_
        obtain ⟨v34, g0, gv34, V⟩ := V
        refine e_zald fR_hold_60 g0 gv34 ?_
        refine e_if_eq (tgt := 81) fR_hold_61 (by decide) (fun z => ?_) (fun z => ?_)
        · have V := V.1 z
          refine e_iconst (v := 3) fR_hold_81 (by decide) ?_
          refine e_goto (tgt := 86) fR_hold_82 (by decide) ?_
          exact Ev.widen (by decide) (by decide) (Ev.loc [0, 1, 2] rfl (KJ30 _ V))
        · have V := V.2 z
          refine e_aload_n fR_hold_64 rfl 0 rfl ?_
          obtain ⟨v35, gv35, V⟩ := V
          refine e_get fR_hold_65 kR_55 gv35 ?_
          refine e_iload_n fR_hold_68 rfl 1 rfl ?_
          obtain ⟨v36, g0, gv36, V⟩ := V
          refine e_iald fR_hold_69 g0 gv36 ?_
          refine e_iload_n fR_hold_70 rfl 2 rfl ?_
          refine e_iadd fR_hold_71 ?_
          refine e_aload_n fR_hold_72 rfl 0 rfl ?_
          obtain ⟨v37, gv37, V⟩ := V
          refine e_get fR_hold_73 kR_52 gv37 ?_
          refine e_iload_n fR_hold_76 rfl 1 rfl ?_
          obtain ⟨v38, g0, gv38, V⟩ := V
          refine e_iald fR_hold_77 g0 gv38 ?_
          refine e_icmp_le (tgt := 85) fR_hold_78 (by decide) (fun z => ?_) (fun z => ?_)
          · have V := V.1 z
            refine e_iconst (v := 0) fR_hold_85 (by decide) ?_
            exact Ev.widen (by decide) (by decide) (Ev.loc [0, 1, 2] rfl (KJ30 _ V))
          · have V := V.2 z
            refine e_iconst (v := 3) fR_hold_81 (by decide) ?_
            refine e_goto (tgt := 86) fR_hold_82 (by decide) ?_
            exact Ev.widen (by decide) (by decide) (Ev.loc [0, 1, 2] rfl (KJ30 _ V))
  refine e_if_ne (tgt := 13) fR_hold_6 (by decide) (fun z => ?_) (fun z => ?_)
  · have V := V.1 z
    refine e_iload_n fR_hold_13 rfl 2 rfl ?_
    refine e_iconst (v := 1) fR_hold_14 (by decide) ?_
    refine e_sipush (v := 1000) fR_hold_15 (by decide) ?_
    refine e_callSi (uc' := 0) (us' := 0) (st := [.ref p0]) fR_hold_18 wR_hold_18 rfl rfl sp_R_in (Nat.le_of_ble_eq_true rfl) (by decide) (by decide) (fun r41 h40 ga => ?_) (fun E h40 gx => False.elim gx)
    obtain ⟨rfl, ge⟩ := ga
    replace ge := ge.symm
    subst ge
    refine e_if_ne (tgt := 28) fR_hold_21 (by decide) (fun z => ?_) (fun z => ?_)
    · have V := V.1 z
      refine e_iconst (v := 0) fR_hold_28 (by decide) ?_
      exact Ev.widen (by decide) (by decide) (Ev.loc [0, 1, 2] rfl (KJ6 _ V))
    · have V := V.2 z
      refine e_iconst (v := 2) fR_hold_24 (by decide) ?_
      refine e_goto (tgt := 29) fR_hold_25 (by decide) ?_
      exact Ev.widen (by decide) (by decide) (Ev.loc [0, 1, 2] rfl (KJ6 _ V))
  · have V := V.2 z
    refine e_iconst (v := 1) fR_hold_9 (by decide) ?_
    refine e_goto (tgt := 29) fR_hold_10 (by decide) ?_
    exact Ev.widen (by decide) (by decide) (Ev.loc [0, 1, 2] rfl (KJ6 _ V))
set_option maxRecDepth 20000 in
theorem vR_pick {l : Launch} {G : ev_G} {h : ev_AH} {P : ev_Post} {p0 : Nat} {p1 : Int32} {p2 : Int32} (V : ∃ v2 : Int32, ev_f h p0 4 12 = some (.int v2) ∧ (∃ fs : List Value, h p0 = some (4, fs)) ∧ ∃ J6 : Int32 → Prop, J6 = (fun (j5 : Int32) => ∃ w7 : Value, ev_f h p0 4 0 = some w7 ∧ ∀ h8 : ev_AH, h8 = ev_s h p0 0 (.int j5) → ∃ v9 : Int32, ev_f h8 p0 4 0 = some (.int v9) ∧ ∃ J11 : ev_AH → Prop, J11 = (fun (h10 : ev_AH) => ∃ v12 : Int32, ev_f h10 p0 4 0 = some (.int v12) ∧ ((v12 ≤ 0 → ∃ v13 : Nat, ev_f h10 p0 4 19 = some (.ref v13) ∧ ∃ v14 : Int32, ¬ p1 < 0 ∧ ev_f h10 v13 100 (Int32.toNatClampNeg p1) = some (.int v14) ∧ ∃ w15 : Value, ¬ p1 < 0 ∧ ev_f h10 v13 100 (Int32.toNatClampNeg p1) = some w15 ∧ ∀ h16 : ev_AH, h16 = ev_s h10 v13 (Int32.toNatClampNeg p1) (.int (v14 + p2)) → ∃ v17 : Nat, ev_f h16 p0 4 8 = some (.ref v17) ∧ ∃ v18 : Nat, ev_f h16 p0 4 13 = some (.ref v18) ∧ ∃ v19 : Int32, ¬ p1 < 0 ∧ ev_f h16 v18 100 (Int32.toNatClampNeg p1) = some (.int v19) ∧ ∃ v20 : Int32, ¬ v19 < 0 ∧ ev_f h16 v17 100 (Int32.toNatClampNeg v19) = some (.int v20) ∧ ∃ w21 : Value, ¬ v19 < 0 ∧ ev_f h16 v17 100 (Int32.toNatClampNeg v19) = some w21 ∧ ∀ h22 : ev_AH, h22 = ev_s h16 v17 (Int32.toNatClampNeg v19) (.int (v20 + 1)) → ∃ v23 : Nat, ev_f h22 p0 4 19 = some (.ref v23) ∧ ∃ v24 : Int32, ¬ p1 < 0 ∧ ev_f h22 v23 100 (Int32.toNatClampNeg p1) = some (.int v24) ∧ P (.inl (some (.int v24))) h22) ∧ (¬ v12 ≤ 0 → P (.inl (some (.int 0))) h10))) ∧ ((¬ v9 = 0 → J11 h8) ∧ (v9 = 0 → ∃ v25 : Nat, ev_f h8 p0 4 6 = some (.ref v25) ∧ ∃ v26 : Nat, ev_f h8 p0 4 13 = some (.ref v26) ∧ ∃ v27 : Int32, ¬ p1 < 0 ∧ ev_f h8 v26 100 (Int32.toNatClampNeg p1) = some (.int v27) ∧ ∃ v28 : Int32, ¬ v27 < 0 ∧ ev_f h8 v25 100 (Int32.toNatClampNeg v27) = some (.int v28) ∧ ∃ J30 : Int32 → Prop, J30 = (fun (j29 : Int32) => ∃ w31 : Value, ev_f h8 p0 4 0 = some w31 ∧ ∀ h32 : ev_AH, h32 = ev_s h8 p0 0 (.int j29) → J11 h32) ∧ ((¬ v28 = 2 → J30 3) ∧ (v28 = 2 → ∃ v33 : Nat, ev_f h8 p0 4 7 = some (.ref v33) ∧ ∃ v34 : Nat, ev_f h8 p0 4 13 = some (.ref v34) ∧ ∃ v35 : Int32, ¬ p1 < 0 ∧ ev_f h8 v34 100 (Int32.toNatClampNeg p1) = some (.int v35) ∧ ∃ v36 : Int32, ¬ v35 < 0 ∧ ev_f h8 v33 100 (Int32.toNatClampNeg v35) = some (.int v36) ∧ ((¬ v36 = 0 → J30 3) ∧ (v36 = 0 → ∃ v37 : Nat, ev_f h8 p0 4 19 = some (.ref v37) ∧ ∃ v38 : Int32, ¬ p1 < 0 ∧ ev_f h8 v37 100 (Int32.toNatClampNeg p1) = some (.int v38) ∧ ∃ v39 : Nat, ev_f h8 p0 4 18 = some (.ref v39) ∧ ∃ v40 : Int32, ¬ p1 < 0 ∧ ev_f h8 v39 100 (Int32.toNatClampNeg p1) = some (.int v40) ∧ (((v38 + p2) ≤ v40 → J30 0) ∧ (¬ (v38 + p2) ≤ v40 → J30 3))))))))) ∧ ((¬ (ev_b (0 ≤ p1 ∧ p1 ≤ v2 - 1)) = 0 → ((¬ (ev_b (1 ≤ p2 ∧ p2 ≤ 1000)) = 0 → J6 0) ∧ ((ev_b (1 ≤ p2 ∧ p2 ≤ 1000)) = 0 → J6 2))) ∧ ((ev_b (0 ≤ p1 ∧ p1 ≤ v2 - 1)) = 0 → J6 1))) : Mt l G M_R_pick [.ref p0, .int p1, .int p2] h P := by
  refine Mt.of rfl rfl (Nat.le_of_ble_eq_true rfl) ?_
  show Ev l G M_R_pick 0 [(0, .ref p0), (1, .int p1), (2, .int p2)] [] h 0 0 (ev_fin G M_R_pick P)
  refine e_aload_n fR_pick_0 rfl 0 rfl ?_
  refine e_aload_n fR_pick_1 rfl 0 rfl ?_
  refine e_iload_n fR_pick_2 rfl 1 rfl ?_
  obtain ⟨v2, gv2, V⟩ := V
  obtain ⟨gc, V⟩ := V
  refine e_callVi (uc' := 0) (us' := 0) (st := [.ref p0]) fR_pick_3 wR_pick_3 rfl rfl gc (sp_R_isLine gv2) (Nat.le_of_ble_eq_true rfl) (by decide) (by decide) (fun r4 h3 ga => ?_) (fun E h3 gx => False.elim gx)
  obtain ⟨rfl, ge⟩ := ga
  replace ge := ge.symm
  subst ge
  obtain ⟨J6, VJ6, V⟩ := V
  have KJ6 : ∀ (j5 : Int32), J6 j5 → Ev l G M_R_pick 29 [(0, .ref p0), (1, .int p1), (2, .int p2)] [.int j5, .ref p0] h 0 0 (ev_fin G M_R_pick P) := by
    intro j5 hj
    have V := Eq.mp (congrFun VJ6 j5) hj
    obtain ⟨w7, gw7, V⟩ := V
    refine e_put fR_pick_29 pR_71 gw7 rfl rfl (fun h8 eh8 => ?_)
    have V := V h8 eh8
    refine e_aload_n fR_pick_32 rfl 0 rfl ?_
    obtain ⟨v9, gv9, V⟩ := V
    refine e_get fR_pick_33 kR_71 gv9 ?_
    obtain ⟨J11, VJ11, V⟩ := V
    have KJ11 : ∀ (h10 : ev_AH), J11 h10 → Ev l G M_R_pick 94 [(0, .ref p0), (1, .int p1), (2, .int p2)] [] h10 0 0 (ev_fin G M_R_pick P) := by
      intro h10 hj
      have V := Eq.mp (congrFun VJ11 h10) hj
      refine e_aload_n fR_pick_94 rfl 0 rfl ?_
      obtain ⟨v12, gv12, V⟩ := V
      refine e_get fR_pick_95 kR_71 gv12 ?_
      refine e_if_le (tgt := 103) fR_pick_98 (by decide) (fun z => ?_) (fun z => ?_)
      · have V := V.1 z
        refine e_aload_n fR_pick_103 rfl 0 rfl ?_
        obtain ⟨v13, gv13, V⟩ := V
        refine e_get fR_pick_104 kR_58 gv13 ?_
        refine e_iload_n fR_pick_107 rfl 1 rfl ?_
        refine e_dup2 fR_pick_108 rfl rfl ?_
        obtain ⟨v14, g0, gv14, V⟩ := V
        refine e_iald fR_pick_109 g0 gv14 ?_
        refine e_iload_n fR_pick_110 rfl 2 rfl ?_
        refine e_iadd fR_pick_111 ?_
        obtain ⟨w15, g0, gw15, V⟩ := V
        refine e_iast fR_pick_112 g0 gw15 (fun h16 eh16 => ?_)
        have V := V h16 eh16
        refine e_aload_n fR_pick_113 rfl 0 rfl ?_
        obtain ⟨v17, gv17, V⟩ := V
        refine e_get fR_pick_114 kR_28 gv17 ?_
        refine e_aload_n fR_pick_117 rfl 0 rfl ?_
        obtain ⟨v18, gv18, V⟩ := V
        refine e_get fR_pick_118 kR_40 gv18 ?_
        refine e_iload_n fR_pick_121 rfl 1 rfl ?_
        obtain ⟨v19, g0, gv19, V⟩ := V
        refine e_iald fR_pick_122 g0 gv19 ?_
        refine e_dup2 fR_pick_123 rfl rfl ?_
        obtain ⟨v20, g0, gv20, V⟩ := V
        refine e_iald fR_pick_124 g0 gv20 ?_
        refine e_iconst (v := 1) fR_pick_125 (by decide) ?_
        refine e_iadd fR_pick_126 ?_
        obtain ⟨w21, g0, gw21, V⟩ := V
        refine e_iast fR_pick_127 g0 gw21 (fun h22 eh22 => ?_)
        have V := V h22 eh22
        refine e_aload_n fR_pick_128 rfl 0 rfl ?_
        obtain ⟨v23, gv23, V⟩ := V
        refine e_get fR_pick_129 kR_58 gv23 ?_
        refine e_iload_n fR_pick_132 rfl 1 rfl ?_
        obtain ⟨v24, g0, gv24, V⟩ := V
        refine e_iald fR_pick_133 g0 gv24 ?_
        exact e_iret fR_pick_134 rfl V
      · have V := V.2 z
        refine e_iconst (v := 0) fR_pick_101 (by decide) ?_
        exact e_iret fR_pick_102 rfl V
    refine e_if_ne (tgt := 94) fR_pick_36 (by decide) (fun z => ?_) (fun z => ?_)
    · have V := V.1 z
      exact Ev.widen (by decide) (by decide) (Ev.loc [0, 1, 2] rfl (KJ11 _ V))
    · have V := V.2 z
      refine e_aload_n fR_pick_39 rfl 0 rfl ?_
      refine e_aload_n fR_pick_40 rfl 0 rfl ?_
      obtain ⟨v25, gv25, V⟩ := V
      refine e_get fR_pick_41 kR_22 gv25 ?_
      refine e_aload_n fR_pick_44 rfl 0 rfl ?_
      obtain ⟨v26, gv26, V⟩ := V
      refine e_get fR_pick_45 kR_40 gv26 ?_
      refine e_iload_n fR_pick_48 rfl 1 rfl ?_
      obtain ⟨v27, g0, gv27, V⟩ := V
      refine e_iald fR_pick_49 g0 gv27 ?_
      obtain ⟨v28, g0, gv28, V⟩ := V
      refine e_iald fR_pick_50 g0 gv28 ?_
      refine e_iconst (v := 2) fR_pick_51 (by decide) ?_
      obtain ⟨J30, VJ30, V⟩ := V
      have KJ30 : ∀ (j29 : Int32), J30 j29 → Ev l G M_R_pick 91 [(0, .ref p0), (1, .int p1), (2, .int p2)] [.int j29, .ref p0] h8 0 0 (ev_fin G M_R_pick P) := by
        intro j29 hj
        have V := Eq.mp (congrFun VJ30 j29) hj
        obtain ⟨w31, gw31, V⟩ := V
        refine e_put fR_pick_91 pR_71 gw31 rfl rfl (fun h32 eh32 => ?_)
        have V := V h32 eh32
        exact Ev.widen (by decide) (by decide) (Ev.loc [0, 1, 2] rfl (KJ11 _ V))
      refine e_icmp_ne (tgt := 86) fR_pick_52 (by decide) (fun z => ?_) (fun z => ?_)
      · have V := V.1 z
        refine e_iconst (v := 3) fR_pick_86 (by decide) ?_
        refine e_goto (tgt := 91) fR_pick_87 (by decide) ?_
        exact Ev.widen (by decide) (by decide) (Ev.loc [0, 1, 2] rfl (KJ30 _ V))
      · have V := V.2 z
        refine e_aload_n fR_pick_55 rfl 0 rfl ?_
        obtain ⟨v33, gv33, V⟩ := V
        refine e_get fR_pick_56 kR_25 gv33 ?_
        refine e_aload_n fR_pick_59 rfl 0 rfl ?_
        obtain ⟨v34, gv34, V⟩ := V
        refine e_get fR_pick_60 kR_40 gv34 ?_
        refine e_iload_n fR_pick_63 rfl 1 rfl ?_
        obtain ⟨v35, g0, gv35, V⟩ := V
        refine e_iald fR_pick_64 g0 gv35 ?_
        obtain ⟨v36, g0, gv36, V⟩ := V
        refine e_iald fR_pick_65 g0 gv36 ?_
        refine e_if_ne (tgt := 86) fR_pick_66 (by decide) (fun z => ?_) (fun z => ?_)
        · have V := V.1 z
          refine e_iconst (v := 3) fR_pick_86 (by decide) ?_
          refine e_goto (tgt := 91) fR_pick_87 (by decide) ?_
          exact Ev.widen (by decide) (by decide) (Ev.loc [0, 1, 2] rfl (KJ30 _ V))
        · have V := V.2 z
          refine e_aload_n fR_pick_69 rfl 0 rfl ?_
          obtain ⟨v37, gv37, V⟩ := V
          refine e_get fR_pick_70 kR_58 gv37 ?_
          refine e_iload_n fR_pick_73 rfl 1 rfl ?_
          obtain ⟨v38, g0, gv38, V⟩ := V
          refine e_iald fR_pick_74 g0 gv38 ?_
          refine e_iload_n fR_pick_75 rfl 2 rfl ?_
          refine e_iadd fR_pick_76 ?_
          refine e_aload_n fR_pick_77 rfl 0 rfl ?_
          obtain ⟨v39, gv39, V⟩ := V
          refine e_get fR_pick_78 kR_55 gv39 ?_
          refine e_iload_n fR_pick_81 rfl 1 rfl ?_
          obtain ⟨v40, g0, gv40, V⟩ := V
          refine e_iald fR_pick_82 g0 gv40 ?_
          refine e_icmp_le (tgt := 90) fR_pick_83 (by decide) (fun z => ?_) (fun z => ?_)
          · have V := V.1 z
            refine e_iconst (v := 0) fR_pick_90 (by decide) ?_
            exact Ev.widen (by decide) (by decide) (Ev.loc [0, 1, 2] rfl (KJ30 _ V))
          · have V := V.2 z
            refine e_iconst (v := 3) fR_pick_86 (by decide) ?_
            refine e_goto (tgt := 91) fR_pick_87 (by decide) ?_
            exact Ev.widen (by decide) (by decide) (Ev.loc [0, 1, 2] rfl (KJ30 _ V))
  refine e_if_ne (tgt := 13) fR_pick_6 (by decide) (fun z => ?_) (fun z => ?_)
  · have V := V.1 z
    refine e_iload_n fR_pick_13 rfl 2 rfl ?_
    refine e_iconst (v := 1) fR_pick_14 (by decide) ?_
    refine e_sipush (v := 1000) fR_pick_15 (by decide) ?_
    refine e_callSi (uc' := 0) (us' := 0) (st := [.ref p0]) fR_pick_18 wR_pick_18 rfl rfl sp_R_in (Nat.le_of_ble_eq_true rfl) (by decide) (by decide) (fun r43 h42 ga => ?_) (fun E h42 gx => False.elim gx)
    obtain ⟨rfl, ge⟩ := ga
    replace ge := ge.symm
    subst ge
    refine e_if_ne (tgt := 28) fR_pick_21 (by decide) (fun z => ?_) (fun z => ?_)
    · have V := V.1 z
      refine e_iconst (v := 0) fR_pick_28 (by decide) ?_
      exact Ev.widen (by decide) (by decide) (Ev.loc [0, 1, 2] rfl (KJ6 _ V))
    · have V := V.2 z
      refine e_iconst (v := 2) fR_pick_24 (by decide) ?_
      refine e_goto (tgt := 29) fR_pick_25 (by decide) ?_
      exact Ev.widen (by decide) (by decide) (Ev.loc [0, 1, 2] rfl (KJ6 _ V))
  · have V := V.2 z
    refine e_iconst (v := 1) fR_pick_9 (by decide) ?_
    refine e_goto (tgt := 29) fR_pick_10 (by decide) ?_
    exact Ev.widen (by decide) (by decide) (Ev.loc [0, 1, 2] rfl (KJ6 _ V))
set_option maxRecDepth 20000 in
theorem vR_liveLines_4 {l : Launch} {G : ev_G} {h : ev_AH} {P : ev_Post} {a0 : Nat} {a1 : Int32} {a2 : Int32} {a3 : Int32} (V : ∃ v1 : Nat, ev_f h a0 4 10 = some (.ref v1) ∧ ∃ v2 : Int32, ¬ a1 < 0 ∧ ev_f h v1 100 (Int32.toNatClampNeg a1) = some (.int v2) ∧ ((v2 ≤ a3 → P (.inl (some (.int a2))) h) ∧ (¬ v2 ≤ a3 → ∃ v3 : Nat, ev_f h a0 4 21 = some (.ref v3) ∧ ∃ v5 : Int32, ev_ar h a0 11 (8 * a1 + a3) v5 ∧ (∃ fs : List Value, h a0 = some (4, fs)) ∧ ∃ v8 : Int32, ¬ v5 < 0 ∧ ev_f h v3 101 (Int32.toNatClampNeg v5) = some (.int v8) ∧ ∃ J10 : Int32 → Prop, J10 = (fun (j9 : Int32) => ∀ x11 : Int32, x11 = a2 + j9 → ∀ x12 : Int32, x12 = a3 + 1 → Ev l G M_R_liveLines 4 [(0, .ref a0), (1, .int a1), (2, .int x11), (3, .int x12)] [] h 0 0 (ev_fin G M_R_liveLines P)) ∧ ((v8 = 0 → J10 0) ∧ (¬ v8 = 0 → J10 1))))) : Ev l G M_R_liveLines 4 [(0, .ref a0), (1, .int a1), (2, .int a2), (3, .int a3)] [] h 0 0 (ev_fin G M_R_liveLines P) := by
  refine e_iload_n fR_liveLines_4 rfl 3 rfl ?_
  refine e_aload_n fR_liveLines_5 rfl 0 rfl ?_
  obtain ⟨v1, gv1, V⟩ := V
  refine e_get fR_liveLines_6 kR_34 gv1 ?_
  refine e_iload_n fR_liveLines_9 rfl 1 rfl ?_
  obtain ⟨v2, g0, gv2, V⟩ := V
  refine e_iald fR_liveLines_10 g0 gv2 ?_
  refine e_icmp_ge (tgt := 42) fR_liveLines_11 (by decide) (fun z => ?_) (fun z => ?_)
  · have V := V.1 z
    refine e_iload_n fR_liveLines_42 rfl 2 rfl ?_
    exact e_iret fR_liveLines_43 rfl V
  · have V := V.2 z
    refine e_iload_n fR_liveLines_14 rfl 2 rfl ?_
    refine e_aload_n fR_liveLines_15 rfl 0 rfl ?_
    obtain ⟨v3, gv3, V⟩ := V
    refine e_get fR_liveLines_16 kR_64 gv3 ?_
    refine e_aload_n fR_liveLines_19 rfl 0 rfl ?_
    refine e_iload_n fR_liveLines_20 rfl 1 rfl ?_
    refine e_iload_n fR_liveLines_21 rfl 3 rfl ?_
    obtain ⟨v5, gv5, V⟩ := V
    obtain ⟨gc, V⟩ := V
    refine e_callVi (uc' := 0) (us' := 0) (st := [.ref v3, .int a2]) fR_liveLines_22 wR_liveLines_22 rfl rfl gc (sp_R_lineAt gv5) (Nat.le_of_ble_eq_true rfl) (by decide) (by decide) (fun r7 h6 ga => ?_) (fun E h6 gx => False.elim gx)
    obtain ⟨rfl, ge⟩ := ga
    replace ge := ge.symm
    subst ge
    obtain ⟨v8, g0, gv8, V⟩ := V
    refine e_zald fR_liveLines_25 g0 gv8 ?_
    obtain ⟨J10, VJ10, V⟩ := V
    have KJ10 : ∀ (j9 : Int32), J10 j9 → Ev l G M_R_liveLines 34 [(0, .ref a0), (1, .int a1), (2, .int a2), (3, .int a3)] [.int j9, .int a2] h 0 0 (ev_fin G M_R_liveLines P) := by
      intro j9 hj
      have V := Eq.mp (congrFun VJ10 j9) hj
      refine e_iadd fR_liveLines_34 ?_
      refine e_topi (fun x11 ex11 => ?_)
      have V := V x11 ex11
      refine e_istore_n (ls' := [(2, .int x11), (0, .ref a0), (1, .int a1), (3, .int a3)]) fR_liveLines_35 rfl (by decide) rfl ?_
      obtain ⟨x12, ex12⟩ : ∃ z : Int32, z = a3 + 1 := ⟨_, rfl⟩
      have V := V x12 ex12
      refine e_iinc (v := x12) (k := 3) (ls' := [(3, .int x12), (2, .int x11), (0, .ref a0), (1, .int a1)]) fR_liveLines_36 rfl (by rw [ex12]; rfl) (by decide) rfl ?_
      refine e_goto (tgt := 4) fR_liveLines_39 (by decide) ?_
      exact Ev.loc [2, 3, 1, 0] rfl V
    refine e_if_eq (tgt := 33) fR_liveLines_26 (by decide) (fun z => ?_) (fun z => ?_)
    · have V := V.1 z
      refine e_iconst (v := 0) fR_liveLines_33 (by decide) ?_
      exact Ev.widen (by decide) (by decide) (Ev.loc [0, 1, 2, 3] rfl (KJ10 _ V))
    · have V := V.2 z
      refine e_iconst (v := 1) fR_liveLines_29 (by decide) ?_
      refine e_goto (tgt := 34) fR_liveLines_30 (by decide) ?_
      exact Ev.widen (by decide) (by decide) (Ev.loc [0, 1, 2, 3] rfl (KJ10 _ V))
set_option maxRecDepth 20000 in
theorem vR_liveLines {l : Launch} {G : ev_G} {h : ev_AH} {P : ev_Post} {p0 : Nat} {p1 : Int32} (V : Ev l G M_R_liveLines 4 [(0, .ref p0), (1, .int p1), (2, .int 0), (3, .int 0)] [] h 0 0 (ev_fin G M_R_liveLines P)) : Mt l G M_R_liveLines [.ref p0, .int p1] h P := by
  refine Mt.of rfl rfl (Nat.le_of_ble_eq_true rfl) ?_
  show Ev l G M_R_liveLines 0 [(0, .ref p0), (1, .int p1)] [] h 0 0 (ev_fin G M_R_liveLines P)
  refine e_iconst (v := 0) fR_liveLines_0 (by decide) ?_
  refine e_istore_n (ls' := [(2, .int 0), (0, .ref p0), (1, .int p1)]) fR_liveLines_1 rfl (by decide) rfl ?_
  refine e_iconst (v := 0) fR_liveLines_2 (by decide) ?_
  refine e_istore_n (ls' := [(3, .int 0), (2, .int 0), (0, .ref p0), (1, .int p1)]) fR_liveLines_3 rfl (by decide) rfl ?_
  exact Ev.loc [2, 3, 1, 0] rfl V
set_option maxRecDepth 20000 in
theorem vR_mayGoOn_44 {l : Launch} {G : ev_G} {h : ev_AH} {P : ev_Post} {a0 : Nat} {a1 : Int32} {a2 : Int32} {a3 : Int32} (V : ∃ v1 : Nat, ev_f h a0 4 10 = some (.ref v1) ∧ ∃ v2 : Int32, ¬ a1 < 0 ∧ ev_f h v1 100 (Int32.toNatClampNeg a1) = some (.int v2) ∧ ((v2 ≤ a3 → narrow .boolean (.int a2) = .int a2 ∧ P (.inl (some (.int a2))) h) ∧ (¬ v2 ≤ a3 → ∃ v4 : Int32, ev_ar h a0 11 (8 * a1 + a3) v4 ∧ (∃ fs : List Value, h a0 = some (4, fs)) ∧ ∃ v7 : Nat, ev_f h a0 4 21 = some (.ref v7) ∧ ∃ v8 : Int32, ¬ v4 < 0 ∧ ev_f h v7 101 (Int32.toNatClampNeg v4) = some (.int v8) ∧ ∃ J10 : Int32 → Prop, J10 = (fun (j9 : Int32) => ∀ x11 : Int32, x11 = a3 + 1 → Ev l G M_R_mayGoOn 44 [(0, .ref a0), (1, .int a1), (2, .int j9), (3, .int x11)] [] h 0 0 (ev_fin G M_R_mayGoOn P)) ∧ ((¬ v8 = 0 → ∃ v12 : Nat, ev_f h a0 4 6 = some (.ref v12) ∧ ∃ v13 : Int32, ¬ a1 < 0 ∧ ev_f h v12 100 (Int32.toNatClampNeg a1) = some (.int v13) ∧ ∃ J15 : Int32 → Prop, J15 = (fun (j14 : Int32) => ∃ v16 : Nat, ev_f h a0 4 6 = some (.ref v16) ∧ ∃ v17 : Int32, ¬ a1 < 0 ∧ ev_f h v16 100 (Int32.toNatClampNeg a1) = some (.int v17) ∧ ∃ J19 : Int32 → Prop, J19 = (fun (j18 : Int32) => ∃ v20 : Nat, ev_f h a0 4 6 = some (.ref v20) ∧ ∃ v21 : Int32, ¬ a1 < 0 ∧ ev_f h v20 100 (Int32.toNatClampNeg a1) = some (.int v21) ∧ ((¬ v21 = 4 → J10 j18) ∧ (v21 = 4 → ∃ J23 : Int32 → Prop, J23 = (fun (j22 : Int32) => J10 j22) ∧ ((j18 = 0 → J23 0) ∧ (¬ j18 = 0 → ∃ v25 : Int32, ev_ar h a0 16 v4 v25 ∧ (∃ fs : List Value, h a0 = some (4, fs)) ∧ (((ev_b (¬ (v25 &&& 4) = 0)) = 0 → J23 1) ∧ (¬ (ev_b (¬ (v25 &&& 4) = 0)) = 0 → ∃ v29 : Int32, ev_ar h a0 21 v4 v29 ∧ ∃ v30 : Int32, ev_ar h a0 17 v4 v30 ∧ ∃ v31 : Int32, ev_ar h a0 20 v4 v31 ∧ (∃ fs : List Value, h a0 = some (4, fs)) ∧ (((if ¬ v29 = 0 then v30 - v31 else 0) ≤ 0 → J23 1) ∧ (¬ (if ¬ v29 = 0 then v30 - v31 else 0) ≤ 0 → ∃ v34 : Nat, ev_f h a0 4 22 = some (.ref v34) ∧ ∃ v35 : Int32, ¬ v4 < 0 ∧ ev_f h v34 101 (Int32.toNatClampNeg v4) = some (.int v35) ∧ ((v35 = 0 → J23 0) ∧ (¬ v35 = 0 → J23 1))))))))))) ∧ ((¬ v17 = 2 → J19 j14) ∧ (v17 = 2 → ∃ J37 : Int32 → Prop, J37 = (fun (j36 : Int32) => J19 j36) ∧ ((j14 = 0 → J37 0) ∧ (¬ j14 = 0 → ∃ v38 : Nat, ev_f h a0 4 19 = some (.ref v38) ∧ ∃ v39 : Int32, ¬ v4 < 0 ∧ ev_f h v38 100 (Int32.toNatClampNeg v4) = some (.int v39) ∧ ∃ v40 : Nat, ev_f h a0 4 18 = some (.ref v40) ∧ ∃ v41 : Int32, ¬ v4 < 0 ∧ ev_f h v40 100 (Int32.toNatClampNeg v4) = some (.int v41) ∧ ((¬ v39 = v41 → J37 0) ∧ (v39 = v41 → J37 1))))))) ∧ ((¬ v13 = 0 → J15 a2) ∧ (v13 = 0 → ∃ J43 : Int32 → Prop, J43 = (fun (j42 : Int32) => J15 j42) ∧ ((a2 = 0 → J43 0) ∧ (¬ a2 = 0 → ∃ v45 : Int32, ev_ar h a0 17 v4 v45 ∧ ∃ v46 : Int32, ev_ar h a0 16 v4 v46 ∧ ∃ v47 : Int32, ev_ar h a0 18 v4 v47 ∧ (∃ fs : List Value, h a0 = some (4, fs)) ∧ (((ev_b (v47 = v45 ∨ (¬ (v46 &&& 1) = 0 ∧ 0 < v47) ∨ ¬ (v46 &&& 4) = 0)) = 0 → J43 0) ∧ (¬ (ev_b (v47 = v45 ∨ (¬ (v46 &&& 1) = 0 ∧ 0 < v47) ∨ ¬ (v46 &&& 4) = 0)) = 0 → J43 1))))))) ∧ (v8 = 0 → J10 a2))))) : Ev l G M_R_mayGoOn 44 [(0, .ref a0), (1, .int a1), (2, .int a2), (3, .int a3)] [] h 0 0 (ev_fin G M_R_mayGoOn P) := by
  refine e_iload_n fR_mayGoOn_44 rfl 3 rfl ?_
  refine e_aload_n fR_mayGoOn_45 rfl 0 rfl ?_
  obtain ⟨v1, gv1, V⟩ := V
  refine e_get fR_mayGoOn_46 kR_34 gv1 ?_
  refine e_iload_n fR_mayGoOn_49 rfl 1 rfl ?_
  obtain ⟨v2, g0, gv2, V⟩ := V
  refine e_iald fR_mayGoOn_50 g0 gv2 ?_
  refine e_icmp_ge (tgt := 195) fR_mayGoOn_51 (by decide) (fun z => ?_) (fun z => ?_)
  · have V := V.1 z
    refine e_iload_n fR_mayGoOn_195 rfl 2 rfl ?_
    exact e_zret fR_mayGoOn_196 rfl V.1 V.2
  · have V := V.2 z
    refine e_aload_n fR_mayGoOn_54 rfl 0 rfl ?_
    refine e_iload_n fR_mayGoOn_55 rfl 1 rfl ?_
    refine e_iload_n fR_mayGoOn_56 rfl 3 rfl ?_
    obtain ⟨v4, gv4, V⟩ := V
    obtain ⟨gc, V⟩ := V
    refine e_callVi (uc' := 0) (us' := 0) (st := []) fR_mayGoOn_57 wR_mayGoOn_57 rfl rfl gc (sp_R_lineAt gv4) (Nat.le_of_ble_eq_true rfl) (by decide) (by decide) (fun r6 h5 ga => ?_) (fun E h5 gx => False.elim gx)
    obtain ⟨rfl, ge⟩ := ga
    replace ge := ge.symm
    subst ge
    refine e_istore (ls' := [(4, .int v4), (0, .ref a0), (1, .int a1), (2, .int a2), (3, .int a3)]) fR_mayGoOn_60 (by decide) rfl ?_
    refine e_aload_n fR_mayGoOn_62 rfl 1 rfl ?_
    obtain ⟨v7, gv7, V⟩ := V
    refine e_get fR_mayGoOn_63 kR_64 gv7 ?_
    refine e_iload fR_mayGoOn_66 0 rfl ?_
    obtain ⟨v8, g0, gv8, V⟩ := V
    refine e_zald fR_mayGoOn_68 g0 gv8 ?_
    obtain ⟨J10, VJ10, V⟩ := V
    have KJ10 : ∀ (j9 : Int32), J10 j9 → Ev l G M_R_mayGoOn 189 [(0, .ref a0), (1, .int a1), (2, .int j9), (3, .int a3), (4, .int v4)] [] h 0 0 (ev_fin G M_R_mayGoOn P) := by
      intro j9 hj
      have V := Eq.mp (congrFun VJ10 j9) hj
      obtain ⟨x11, ex11⟩ : ∃ z : Int32, z = a3 + 1 := ⟨_, rfl⟩
      have V := V x11 ex11
      refine e_iinc (v := x11) (k := 3) (ls' := [(3, .int x11), (0, .ref a0), (1, .int a1), (2, .int j9), (4, .int v4)]) fR_mayGoOn_189 rfl (by rw [ex11]; rfl) (by decide) rfl ?_
      refine e_goto (tgt := 44) fR_mayGoOn_192 (by decide) ?_
      exact Ev.loc [1, 2, 3, 0] rfl V
    refine e_if_ne (tgt := 75) fR_mayGoOn_69 (by decide) (fun z => ?_) (fun z => ?_)
    · have V := V.1 z
      refine e_aload_n fR_mayGoOn_75 rfl 1 rfl ?_
      obtain ⟨v12, gv12, V⟩ := V
      refine e_get fR_mayGoOn_76 kR_22 gv12 ?_
      refine e_iload_n fR_mayGoOn_79 rfl 2 rfl ?_
      obtain ⟨v13, g0, gv13, V⟩ := V
      refine e_iald fR_mayGoOn_80 g0 gv13 ?_
      obtain ⟨J15, VJ15, V⟩ := V
      have KJ15 : ∀ (j14 : Int32), J15 j14 → Ev l G M_R_mayGoOn 103 [(0, .ref a0), (1, .int a1), (2, .int j14), (3, .int a3), (4, .int v4)] [] h 0 0 (ev_fin G M_R_mayGoOn P) := by
        intro j14 hj
        have V := Eq.mp (congrFun VJ15 j14) hj
        refine e_aload_n fR_mayGoOn_103 rfl 0 rfl ?_
        obtain ⟨v16, gv16, V⟩ := V
        refine e_get fR_mayGoOn_104 kR_22 gv16 ?_
        refine e_iload_n fR_mayGoOn_107 rfl 1 rfl ?_
        obtain ⟨v17, g0, gv17, V⟩ := V
        refine e_iald fR_mayGoOn_108 g0 gv17 ?_
        refine e_iconst (v := 2) fR_mayGoOn_109 (by decide) ?_
        obtain ⟨J19, VJ19, V⟩ := V
        have KJ19 : ∀ (j18 : Int32), J19 j18 → Ev l G M_R_mayGoOn 140 [(0, .ref a0), (1, .int a1), (2, .int j18), (3, .int a3), (4, .int v4)] [] h 0 0 (ev_fin G M_R_mayGoOn P) := by
          intro j18 hj
          have V := Eq.mp (congrFun VJ19 j18) hj
          refine e_aload_n fR_mayGoOn_140 rfl 0 rfl ?_
          obtain ⟨v20, gv20, V⟩ := V
          refine e_get fR_mayGoOn_141 kR_22 gv20 ?_
          refine e_iload_n fR_mayGoOn_144 rfl 1 rfl ?_
          obtain ⟨v21, g0, gv21, V⟩ := V
          refine e_iald fR_mayGoOn_145 g0 gv21 ?_
          refine e_iconst (v := 4) fR_mayGoOn_146 (by decide) ?_
          refine e_icmp_ne (tgt := 189) fR_mayGoOn_147 (by decide) (fun z => ?_) (fun z => ?_)
          · have V := V.1 z
            exact Ev.widen (by decide) (by decide) (Ev.loc [0, 1, 2, 3, 4] rfl (KJ10 _ V))
          · have V := V.2 z
            refine e_iload_n fR_mayGoOn_150 rfl 2 rfl ?_
            obtain ⟨J23, VJ23, V⟩ := V
            have KJ23 : ∀ (j22 : Int32), J23 j22 → Ev l G M_R_mayGoOn 188 [(0, .ref a0), (1, .int a1), (2, .int j18), (3, .int a3), (4, .int v4)] [.int j22] h 0 0 (ev_fin G M_R_mayGoOn P) := by
              intro j22 hj
              have V := Eq.mp (congrFun VJ23 j22) hj
              refine e_istore_n (ls' := [(2, .int j22), (0, .ref a0), (1, .int a1), (3, .int a3), (4, .int v4)]) fR_mayGoOn_188 rfl (by decide) rfl ?_
              exact Ev.widen (by decide) (by decide) (Ev.loc [1, 2, 0, 3, 4] rfl (KJ10 _ V))
            refine e_if_eq (tgt := 187) fR_mayGoOn_151 (by decide) (fun z => ?_) (fun z => ?_)
            · have V := V.1 z
              refine e_iconst (v := 0) fR_mayGoOn_187 (by decide) ?_
              exact Ev.widen (by decide) (by decide) (Ev.loc [0, 1, 2, 3, 4] rfl (KJ23 _ V))
            · have V := V.2 z
              refine e_aload_n fR_mayGoOn_154 rfl 0 rfl ?_
              refine e_iload fR_mayGoOn_155 4 rfl ?_
              refine e_iconst (v := 4) fR_mayGoOn_157 (by decide) ?_
              obtain ⟨v25, gv25, V⟩ := V
              obtain ⟨gc, V⟩ := V
              refine e_callVi (uc' := 0) (us' := 0) (st := []) fR_mayGoOn_158 wR_mayGoOn_158 rfl rfl gc (sp_R_has gv25) (Nat.le_of_ble_eq_true rfl) (by decide) (by decide) (fun r27 h26 ga => ?_) (fun E h26 gx => False.elim gx)
              obtain ⟨rfl, ge⟩ := ga
              replace ge := ge.symm
              subst ge
              refine e_if_eq (tgt := 183) fR_mayGoOn_161 (by decide) (fun z => ?_) (fun z => ?_)
              · have V := V.1 z
                refine e_iconst (v := 1) fR_mayGoOn_183 (by decide) ?_
                refine e_goto (tgt := 188) fR_mayGoOn_184 (by decide) ?_
                exact Ev.widen (by decide) (by decide) (Ev.loc [0, 1, 2, 3, 4] rfl (KJ23 _ V))
              · have V := V.2 z
                refine e_aload_n fR_mayGoOn_164 rfl 0 rfl ?_
                refine e_iload fR_mayGoOn_165 4 rfl ?_
                obtain ⟨v29, gv29, V⟩ := V
                obtain ⟨v30, gv30, V⟩ := V
                obtain ⟨v31, gv31, V⟩ := V
                obtain ⟨gc, V⟩ := V
                refine e_callVi (uc' := 0) (us' := 0) (st := []) fR_mayGoOn_167 wR_mayGoOn_167 rfl rfl gc (sp_R_shortOf gv29 gv30 gv31) (Nat.le_of_ble_eq_true rfl) (by decide) (by decide) (fun r33 h32 ga => ?_) (fun E h32 gx => False.elim gx)
                obtain ⟨rfl, ge⟩ := ga
                replace ge := ge.symm
                subst ge
                refine e_if_le (tgt := 183) fR_mayGoOn_170 (by decide) (fun z => ?_) (fun z => ?_)
                · have V := V.1 z
                  refine e_iconst (v := 1) fR_mayGoOn_183 (by decide) ?_
                  refine e_goto (tgt := 188) fR_mayGoOn_184 (by decide) ?_
                  exact Ev.widen (by decide) (by decide) (Ev.loc [0, 1, 2, 3, 4] rfl (KJ23 _ V))
                · have V := V.2 z
                  refine e_aload_n fR_mayGoOn_173 rfl 0 rfl ?_
                  obtain ⟨v34, gv34, V⟩ := V
                  refine e_get fR_mayGoOn_174 kR_68 gv34 ?_
                  refine e_iload fR_mayGoOn_177 4 rfl ?_
                  obtain ⟨v35, g0, gv35, V⟩ := V
                  refine e_zald fR_mayGoOn_179 g0 gv35 ?_
                  refine e_if_eq (tgt := 187) fR_mayGoOn_180 (by decide) (fun z => ?_) (fun z => ?_)
                  · have V := V.1 z
                    refine e_iconst (v := 0) fR_mayGoOn_187 (by decide) ?_
                    exact Ev.widen (by decide) (by decide) (Ev.loc [0, 1, 2, 3, 4] rfl (KJ23 _ V))
                  · have V := V.2 z
                    refine e_iconst (v := 1) fR_mayGoOn_183 (by decide) ?_
                    refine e_goto (tgt := 188) fR_mayGoOn_184 (by decide) ?_
                    exact Ev.widen (by decide) (by decide) (Ev.loc [0, 1, 2, 3, 4] rfl (KJ23 _ V))
        refine e_icmp_ne (tgt := 140) fR_mayGoOn_110 (by decide) (fun z => ?_) (fun z => ?_)
        · have V := V.1 z
          exact Ev.widen (by decide) (by decide) (Ev.loc [0, 1, 2, 3, 4] rfl (KJ19 _ V))
        · have V := V.2 z
          refine e_iload_n fR_mayGoOn_113 rfl 2 rfl ?_
          obtain ⟨J37, VJ37, V⟩ := V
          have KJ37 : ∀ (j36 : Int32), J37 j36 → Ev l G M_R_mayGoOn 139 [(0, .ref a0), (1, .int a1), (2, .int j14), (3, .int a3), (4, .int v4)] [.int j36] h 0 0 (ev_fin G M_R_mayGoOn P) := by
            intro j36 hj
            have V := Eq.mp (congrFun VJ37 j36) hj
            refine e_istore_n (ls' := [(2, .int j36), (0, .ref a0), (1, .int a1), (3, .int a3), (4, .int v4)]) fR_mayGoOn_139 rfl (by decide) rfl ?_
            exact Ev.widen (by decide) (by decide) (Ev.loc [1, 2, 0, 3, 4] rfl (KJ19 _ V))
          refine e_if_eq (tgt := 138) fR_mayGoOn_114 (by decide) (fun z => ?_) (fun z => ?_)
          · have V := V.1 z
            refine e_iconst (v := 0) fR_mayGoOn_138 (by decide) ?_
            exact Ev.widen (by decide) (by decide) (Ev.loc [0, 1, 2, 3, 4] rfl (KJ37 _ V))
          · have V := V.2 z
            refine e_aload_n fR_mayGoOn_117 rfl 0 rfl ?_
            obtain ⟨v38, gv38, V⟩ := V
            refine e_get fR_mayGoOn_118 kR_58 gv38 ?_
            refine e_iload fR_mayGoOn_121 4 rfl ?_
            obtain ⟨v39, g0, gv39, V⟩ := V
            refine e_iald fR_mayGoOn_123 g0 gv39 ?_
            refine e_aload_n fR_mayGoOn_124 rfl 0 rfl ?_
            obtain ⟨v40, gv40, V⟩ := V
            refine e_get fR_mayGoOn_125 kR_55 gv40 ?_
            refine e_iload fR_mayGoOn_128 4 rfl ?_
            obtain ⟨v41, g0, gv41, V⟩ := V
            refine e_iald fR_mayGoOn_130 g0 gv41 ?_
            refine e_icmp_ne (tgt := 138) fR_mayGoOn_131 (by decide) (fun z => ?_) (fun z => ?_)
            · have V := V.1 z
              refine e_iconst (v := 0) fR_mayGoOn_138 (by decide) ?_
              exact Ev.widen (by decide) (by decide) (Ev.loc [0, 1, 2, 3, 4] rfl (KJ37 _ V))
            · have V := V.2 z
              refine e_iconst (v := 1) fR_mayGoOn_134 (by decide) ?_
              refine e_goto (tgt := 139) fR_mayGoOn_135 (by decide) ?_
              exact Ev.widen (by decide) (by decide) (Ev.loc [0, 1, 2, 3, 4] rfl (KJ37 _ V))
      refine e_if_ne (tgt := 103) fR_mayGoOn_81 (by decide) (fun z => ?_) (fun z => ?_)
      · have V := V.1 z
        exact Ev.widen (by decide) (by decide) (Ev.loc [1, 2, 3, 4, 0] rfl (KJ15 _ V))
      · have V := V.2 z
        refine e_iload_n fR_mayGoOn_84 rfl 3 rfl ?_
        obtain ⟨J43, VJ43, V⟩ := V
        have KJ43 : ∀ (j42 : Int32), J43 j42 → Ev l G M_R_mayGoOn 102 [(0, .ref a0), (1, .int a1), (2, .int a2), (3, .int a3), (4, .int v4)] [.int j42] h 0 0 (ev_fin G M_R_mayGoOn P) := by
          intro j42 hj
          have V := Eq.mp (congrFun VJ43 j42) hj
          refine e_istore_n (ls' := [(2, .int j42), (0, .ref a0), (1, .int a1), (3, .int a3), (4, .int v4)]) fR_mayGoOn_102 rfl (by decide) rfl ?_
          exact Ev.widen (by decide) (by decide) (Ev.loc [1, 2, 0, 3, 4] rfl (KJ15 _ V))
        refine e_if_eq (tgt := 101) fR_mayGoOn_85 (by decide) (fun z => ?_) (fun z => ?_)
        · have V := V.1 z
          refine e_iconst (v := 0) fR_mayGoOn_101 (by decide) ?_
          exact Ev.widen (by decide) (by decide) (Ev.loc [1, 2, 3, 4, 0] rfl (KJ43 _ V))
        · have V := V.2 z
          refine e_aload_n fR_mayGoOn_88 rfl 1 rfl ?_
          refine e_iload fR_mayGoOn_89 0 rfl ?_
          obtain ⟨v45, gv45, V⟩ := V
          obtain ⟨v46, gv46, V⟩ := V
          obtain ⟨v47, gv47, V⟩ := V
          obtain ⟨gc, V⟩ := V
          refine e_callVi (uc' := 0) (us' := 0) (st := []) fR_mayGoOn_91 wR_mayGoOn_91 rfl rfl gc (sp_R_isReady gv45 gv46 gv47) (Nat.le_of_ble_eq_true rfl) (by decide) (by decide) (fun r49 h48 ga => ?_) (fun E h48 gx => False.elim gx)
          obtain ⟨rfl, ge⟩ := ga
          replace ge := ge.symm
          subst ge
          refine e_if_eq (tgt := 101) fR_mayGoOn_94 (by decide) (fun z => ?_) (fun z => ?_)
          · have V := V.1 z
            refine e_iconst (v := 0) fR_mayGoOn_101 (by decide) ?_
            exact Ev.widen (by decide) (by decide) (Ev.loc [1, 2, 3, 4, 0] rfl (KJ43 _ V))
          · have V := V.2 z
            refine e_iconst (v := 1) fR_mayGoOn_97 (by decide) ?_
            refine e_goto (tgt := 102) fR_mayGoOn_98 (by decide) ?_
            exact Ev.widen (by decide) (by decide) (Ev.loc [1, 2, 3, 4, 0] rfl (KJ43 _ V))
    · have V := V.2 z
      refine e_goto (tgt := 189) fR_mayGoOn_72 (by decide) ?_
      exact Ev.widen (by decide) (by decide) (Ev.loc [1, 2, 3, 4, 0] rfl (KJ10 _ V))
set_option maxRecDepth 20000 in
theorem vR_mayGoOn {l : Launch} {G : ev_G} {h : ev_AH} {P : ev_Post} {p0 : Nat} {p1 : Int32} (V : ∃ v1 : Nat, ev_f h p0 4 7 = some (.ref v1) ∧ ∃ v2 : Int32, ¬ p1 < 0 ∧ ev_f h v1 100 (Int32.toNatClampNeg p1) = some (.int v2) ∧ ∃ J4 : Int32 → Prop, J4 = (fun (j3 : Int32) => ∃ v5 : Nat, ev_f h p0 4 6 = some (.ref v5) ∧ ∃ v6 : Int32, ¬ p1 < 0 ∧ ev_f h v5 100 (Int32.toNatClampNeg p1) = some (.int v6) ∧ ∃ J9 : Int32 → ev_AH → Prop, J9 = (fun (j7 : Int32) (h8 : ev_AH) => Ev l G M_R_mayGoOn 44 [(0, .ref p0), (1, .int p1), (2, .int j7), (3, .int 0)] [] h8 0 0 (ev_fin G M_R_mayGoOn P)) ∧ ((¬ v6 = 0 → J9 j3 h) ∧ (v6 = 0 → ∃ J12 : Int32 → ev_AH → Prop, J12 = (fun (j10 : Int32) (h11 : ev_AH) => J9 j10 h11) ∧ ((j3 = 0 → J12 0 h) ∧ (¬ j3 = 0 → (∃ fs : List Value, h p0 = some (4, fs)) ∧ ∃ (A : Int32 → ev_AH → Prop) (X : String → ev_AH → Prop), Mt l G M_R_liveLines [.ref p0, .int p1] h (ev_pi A X) ∧ (∀ (r14 : Int32) (h13 : ev_AH), A r14 h13 → ((r14 ≤ 0 → J12 0 h13) ∧ (¬ r14 ≤ 0 → J12 1 h13))) ∧ (∀ (E : String) (h9 : ev_AH), X E h9 → P (.inr E) h9)))))) ∧ ((¬ v2 = 0 → J4 0) ∧ (v2 = 0 → J4 1))) : Mt l G M_R_mayGoOn [.ref p0, .int p1] h P := by
  refine Mt.of rfl rfl (Nat.le_of_ble_eq_true rfl) ?_
  show Ev l G M_R_mayGoOn 0 [(0, .ref p0), (1, .int p1)] [] h 0 0 (ev_fin G M_R_mayGoOn P)
  refine e_aload_n fR_mayGoOn_0 rfl 0 rfl ?_
  obtain ⟨v1, gv1, V⟩ := V
  refine e_get fR_mayGoOn_1 kR_25 gv1 ?_
  refine e_iload_n fR_mayGoOn_4 rfl 1 rfl ?_
  obtain ⟨v2, g0, gv2, V⟩ := V
  refine e_iald fR_mayGoOn_5 g0 gv2 ?_
  obtain ⟨J4, VJ4, V⟩ := V
  have KJ4 : ∀ (j3 : Int32), J4 j3 → Ev l G M_R_mayGoOn 14 [(0, .ref p0), (1, .int p1)] [.int j3] h 0 0 (ev_fin G M_R_mayGoOn P) := by
    intro j3 hj
    have V := Eq.mp (congrFun VJ4 j3) hj
    refine e_istore_n (ls' := [(2, .int j3), (0, .ref p0), (1, .int p1)]) fR_mayGoOn_14 rfl (by decide) rfl ?_
    refine e_aload_n fR_mayGoOn_15 rfl 1 rfl ?_
    obtain ⟨v5, gv5, V⟩ := V
    refine e_get fR_mayGoOn_16 kR_22 gv5 ?_
    refine e_iload_n fR_mayGoOn_19 rfl 2 rfl ?_
    obtain ⟨v6, g0, gv6, V⟩ := V
    refine e_iald fR_mayGoOn_20 g0 gv6 ?_
    obtain ⟨J9, VJ9, V⟩ := V
    have KJ9 : ∀ (j7 : Int32) (h8 : ev_AH), J9 j7 h8 → Ev l G M_R_mayGoOn 42 [(0, .ref p0), (1, .int p1), (2, .int j7)] [] h8 0 0 (ev_fin G M_R_mayGoOn P) := by
      intro j7 h8 hj
      have V := Eq.mp (congrFun (congrFun VJ9 j7) h8) hj
      refine e_iconst (v := 0) fR_mayGoOn_42 (by decide) ?_
      refine e_istore_n (ls' := [(3, .int 0), (0, .ref p0), (1, .int p1), (2, .int j7)]) fR_mayGoOn_43 rfl (by decide) rfl ?_
      exact Ev.loc [1, 2, 3, 0] rfl V
    refine e_if_ne (tgt := 42) fR_mayGoOn_21 (by decide) (fun z => ?_) (fun z => ?_)
    · have V := V.1 z
      exact Ev.widen (by decide) (by decide) (Ev.loc [1, 2, 0] rfl (KJ9 _ _ V))
    · have V := V.2 z
      refine e_iload_n fR_mayGoOn_24 rfl 0 rfl ?_
      obtain ⟨J12, VJ12, V⟩ := V
      have KJ12 : ∀ (j10 : Int32) (h11 : ev_AH), J12 j10 h11 → Ev l G M_R_mayGoOn 41 [(0, .ref p0), (1, .int p1), (2, .int j3)] [.int j10] h11 0 0 (ev_fin G M_R_mayGoOn P) := by
        intro j10 h11 hj
        have V := Eq.mp (congrFun (congrFun VJ12 j10) h11) hj
        refine e_istore_n (ls' := [(2, .int j10), (0, .ref p0), (1, .int p1)]) fR_mayGoOn_41 rfl (by decide) rfl ?_
        exact Ev.widen (by decide) (by decide) (Ev.loc [1, 2, 0] rfl (KJ9 _ _ V))
      refine e_if_eq (tgt := 40) fR_mayGoOn_25 (by decide) (fun z => ?_) (fun z => ?_)
      · have V := V.1 z
        refine e_iconst (v := 0) fR_mayGoOn_40 (by decide) ?_
        exact Ev.widen (by decide) (by decide) (Ev.loc [1, 2, 0] rfl (KJ12 _ _ V))
      · have V := V.2 z
        refine e_aload_n fR_mayGoOn_28 rfl 1 rfl ?_
        refine e_iload_n fR_mayGoOn_29 rfl 2 rfl ?_
        obtain ⟨gc, V⟩ := V
        obtain ⟨A, X, hm, V, VX⟩ := V
        refine e_callVi (uc' := 0) (us' := 0) (st := []) fR_mayGoOn_30 wR_mayGoOn_30 rfl rfl gc hm (Nat.le_of_ble_eq_true rfl) (by decide) (by decide) (fun r14 h13 ga => ?_) (fun E h13 gx => ?_)
        · have V := V _ _ ga
          refine e_if_le (tgt := 40) fR_mayGoOn_33 (by decide) (fun z => ?_) (fun z => ?_)
          · have V := V.1 z
            refine e_iconst (v := 0) fR_mayGoOn_40 (by decide) ?_
            exact Ev.widen (by decide) (by decide) (Ev.loc [1, 2, 0] rfl (KJ12 _ _ V))
          · have V := V.2 z
            refine e_iconst (v := 1) fR_mayGoOn_36 (by decide) ?_
            refine e_goto (tgt := 41) fR_mayGoOn_37 (by decide) ?_
            exact Ev.widen (by decide) (by decide) (Ev.loc [1, 2, 0] rfl (KJ12 _ _ V))
        · exact e_out (by decide) (VX E _ gx)
  refine e_if_ne (tgt := 13) fR_mayGoOn_6 (by decide) (fun z => ?_) (fun z => ?_)
  · have V := V.1 z
    refine e_iconst (v := 0) fR_mayGoOn_13 (by decide) ?_
    exact Ev.widen (by decide) (by decide) (Ev.loc [0, 1] rfl (KJ4 _ V))
  · have V := V.2 z
    refine e_iconst (v := 1) fR_mayGoOn_9 (by decide) ?_
    refine e_goto (tgt := 14) fR_mayGoOn_10 (by decide) ?_
    exact Ev.widen (by decide) (by decide) (Ev.loc [0, 1] rfl (KJ4 _ V))
set_option maxRecDepth 20000 in
theorem vR_goOn_84 {l : Launch} {G : ev_G} {h : ev_AH} {P : ev_Post} {a0 : Nat} {a1 : Int32} {a2 : Int32} (V : ∃ v1 : Nat, ev_f h a0 4 10 = some (.ref v1) ∧ ∃ v2 : Int32, ¬ a1 < 0 ∧ ev_f h v1 100 (Int32.toNatClampNeg a1) = some (.int v2) ∧ ∃ J3 : Prop, J3 = (∃ v4 : Nat, ev_f h a0 4 6 = some (.ref v4) ∧ ∃ v5 : Int32, ¬ a1 < 0 ∧ ev_f h v4 100 (Int32.toNatClampNeg a1) = some (.int v5) ∧ P (.inl (some (.int v5))) h) ∧ ((v2 ≤ a2 → J3) ∧ (¬ v2 ≤ a2 → ∃ v6 : Nat, ev_f h a0 4 6 = some (.ref v6) ∧ ∃ v7 : Int32, ¬ a1 < 0 ∧ ev_f h v6 100 (Int32.toNatClampNeg a1) = some (.int v7) ∧ ((¬ v7 = 4 → J3) ∧ (v7 = 4 → ∃ v8 : Nat, ev_f h a0 4 20 = some (.ref v8) ∧ ∃ v10 : Int32, ev_ar h a0 11 (8 * a1 + a2) v10 ∧ (∃ fs : List Value, h a0 = some (4, fs)) ∧ ∃ v13 : Nat, ev_f h a0 4 19 = some (.ref v13) ∧ ∃ v15 : Int32, ev_ar h a0 11 (8 * a1 + a2) v15 ∧ (∃ fs : List Value, h a0 = some (4, fs)) ∧ ∃ v18 : Int32, ¬ v15 < 0 ∧ ev_f h v13 100 (Int32.toNatClampNeg v15) = some (.int v18) ∧ ∃ w19 : Value, ¬ v10 < 0 ∧ ev_f h v8 100 (Int32.toNatClampNeg v10) = some w19 ∧ ∀ h20 : ev_AH, h20 = ev_s h v8 (Int32.toNatClampNeg v10) (.int v18) → ∀ x21 : Int32, x21 = a2 + 1 → Ev l G M_R_goOn 84 [(0, .ref a0), (1, .int a1), (2, .int x21)] [] h20 0 0 (ev_fin G M_R_goOn P)))))) : Ev l G M_R_goOn 84 [(0, .ref a0), (1, .int a1), (2, .int a2)] [] h 0 0 (ev_fin G M_R_goOn P) := by
  refine e_iload_n fR_goOn_84 rfl 2 rfl ?_
  refine e_aload_n fR_goOn_85 rfl 0 rfl ?_
  obtain ⟨v1, gv1, V⟩ := V
  refine e_get fR_goOn_86 kR_34 gv1 ?_
  refine e_iload_n fR_goOn_89 rfl 1 rfl ?_
  obtain ⟨v2, g0, gv2, V⟩ := V
  refine e_iald fR_goOn_90 g0 gv2 ?_
  obtain ⟨J3, VJ3, V⟩ := V
  have KJ3 : J3 → Ev l G M_R_goOn 132 [(0, .ref a0), (1, .int a1), (2, .int a2)] [] h 0 0 (ev_fin G M_R_goOn P) := by
    intro hj
    have V := Eq.mp VJ3 hj
    refine e_aload_n fR_goOn_132 rfl 0 rfl ?_
    obtain ⟨v4, gv4, V⟩ := V
    refine e_get fR_goOn_133 kR_22 gv4 ?_
    refine e_iload_n fR_goOn_136 rfl 1 rfl ?_
    obtain ⟨v5, g0, gv5, V⟩ := V
    refine e_iald fR_goOn_137 g0 gv5 ?_
    exact e_iret fR_goOn_138 rfl V
  refine e_icmp_ge (tgt := 132) fR_goOn_91 (by decide) (fun z => ?_) (fun z => ?_)
  · have V := V.1 z
    exact Ev.widen (by decide) (by decide) (Ev.loc [0, 1, 2] rfl (KJ3 V))
  · have V := V.2 z
    refine e_aload_n fR_goOn_94 rfl 0 rfl ?_
    obtain ⟨v6, gv6, V⟩ := V
    refine e_get fR_goOn_95 kR_22 gv6 ?_
    refine e_iload_n fR_goOn_98 rfl 1 rfl ?_
    obtain ⟨v7, g0, gv7, V⟩ := V
    refine e_iald fR_goOn_99 g0 gv7 ?_
    refine e_iconst (v := 4) fR_goOn_100 (by decide) ?_
    refine e_icmp_ne (tgt := 132) fR_goOn_101 (by decide) (fun z => ?_) (fun z => ?_)
    · have V := V.1 z
      exact Ev.widen (by decide) (by decide) (Ev.loc [0, 1, 2] rfl (KJ3 V))
    · have V := V.2 z
      refine e_aload_n fR_goOn_104 rfl 0 rfl ?_
      obtain ⟨v8, gv8, V⟩ := V
      refine e_get fR_goOn_105 kR_61 gv8 ?_
      refine e_aload_n fR_goOn_108 rfl 0 rfl ?_
      refine e_iload_n fR_goOn_109 rfl 1 rfl ?_
      refine e_iload_n fR_goOn_110 rfl 2 rfl ?_
      obtain ⟨v10, gv10, V⟩ := V
      obtain ⟨gc, V⟩ := V
      refine e_callVi (uc' := 0) (us' := 0) (st := [.ref v8]) fR_goOn_111 wR_goOn_111 rfl rfl gc (sp_R_lineAt gv10) (Nat.le_of_ble_eq_true rfl) (by decide) (by decide) (fun r12 h11 ga => ?_) (fun E h11 gx => False.elim gx)
      obtain ⟨rfl, ge⟩ := ga
      replace ge := ge.symm
      subst ge
      refine e_aload_n fR_goOn_114 rfl 0 rfl ?_
      obtain ⟨v13, gv13, V⟩ := V
      refine e_get fR_goOn_115 kR_58 gv13 ?_
      refine e_aload_n fR_goOn_118 rfl 0 rfl ?_
      refine e_iload_n fR_goOn_119 rfl 1 rfl ?_
      refine e_iload_n fR_goOn_120 rfl 2 rfl ?_
      obtain ⟨v15, gv15, V⟩ := V
      obtain ⟨gc, V⟩ := V
      refine e_callVi (uc' := 0) (us' := 0) (st := [.ref v13, .int v10, .ref v8]) fR_goOn_121 wR_goOn_121 rfl rfl gc (sp_R_lineAt gv15) (Nat.le_of_ble_eq_true rfl) (by decide) (by decide) (fun r17 h16 ga => ?_) (fun E h16 gx => False.elim gx)
      obtain ⟨rfl, ge⟩ := ga
      replace ge := ge.symm
      subst ge
      obtain ⟨v18, g0, gv18, V⟩ := V
      refine e_iald fR_goOn_124 g0 gv18 ?_
      obtain ⟨w19, g0, gw19, V⟩ := V
      refine e_iast fR_goOn_125 g0 gw19 (fun h20 eh20 => ?_)
      have V := V h20 eh20
      obtain ⟨x21, ex21⟩ : ∃ z : Int32, z = a2 + 1 := ⟨_, rfl⟩
      have V := V x21 ex21
      refine e_iinc (v := x21) (k := 2) (ls' := [(2, .int x21), (0, .ref a0), (1, .int a1)]) fR_goOn_126 rfl (by rw [ex21]; rfl) (by decide) rfl ?_
      refine e_goto (tgt := 84) fR_goOn_129 (by decide) ?_
      exact Ev.loc [1, 2, 0] rfl V
set_option maxRecDepth 20000 in
theorem vR_goOn {l : Launch} {G : ev_G} {h : ev_AH} {P : ev_Post} {p0 : Nat} {p1 : Int32} (V : ∃ v2 : Int32, ev_f h p0 4 1 = some (.int v2) ∧ (∃ fs : List Value, h p0 = some (4, fs)) ∧ ∃ J6 : Int32 → Prop, J6 = (fun (j5 : Int32) => ∃ w7 : Value, ev_f h p0 4 0 = some w7 ∧ ∀ h8 : ev_AH, h8 = ev_s h p0 0 (.int j5) → ∃ v9 : Int32, ev_f h8 p0 4 0 = some (.int v9) ∧ ∃ J11 : ev_AH → Prop, J11 = (fun (h10 : ev_AH) => ∃ v12 : Int32, ev_f h10 p0 4 0 = some (.int v12) ∧ ((v12 ≤ 0 → (∃ fs : List Value, h10 p0 = some (4, fs)) ∧ ∃ (A : Int32 → ev_AH → Prop) (X : String → ev_AH → Prop), Mt l G M_R_mayGoOn [.ref p0, .int p1] h10 (ev_pi A X) ∧ (∀ (r14 : Int32) (h13 : ev_AH), A r14 h13 → ((¬ r14 = 0 → ∃ v15 : Nat, ev_f h13 p0 4 6 = some (.ref v15) ∧ ∃ v16 : Int32, ¬ p1 < 0 ∧ ev_f h13 v15 100 (Int32.toNatClampNeg p1) = some (.int v16) ∧ ∃ w17 : Value, ¬ p1 < 0 ∧ ev_f h13 v15 100 (Int32.toNatClampNeg p1) = some w17 ∧ ∀ h18 : ev_AH, h18 = ev_s h13 v15 (Int32.toNatClampNeg p1) (.int (v16 + 1)) → ∃ v19 : Nat, ev_f h18 p0 4 8 = some (.ref v19) ∧ ∃ v20 : Int32, ¬ p1 < 0 ∧ ev_f h18 v19 100 (Int32.toNatClampNeg p1) = some (.int v20) ∧ ∃ w21 : Value, ¬ p1 < 0 ∧ ev_f h18 v19 100 (Int32.toNatClampNeg p1) = some w21 ∧ ∀ h22 : ev_AH, h22 = ev_s h18 v19 (Int32.toNatClampNeg p1) (.int (v20 + 1)) → Ev l G M_R_goOn 84 [(0, .ref p0), (1, .int p1), (2, .int 0)] [] h22 0 0 (ev_fin G M_R_goOn P)) ∧ (r14 = 0 → P (.inl (some (.int (-1)))) h13))) ∧ (∀ (E : String) (h9 : ev_AH), X E h9 → P (.inr E) h9)) ∧ (¬ v12 ≤ 0 → P (.inl (some (.int 0))) h10))) ∧ ((¬ v9 = 0 → J11 h8) ∧ (v9 = 0 → ∃ v23 : Nat, ev_f h8 p0 4 6 = some (.ref v23) ∧ ∃ v24 : Int32, ¬ p1 < 0 ∧ ev_f h8 v23 100 (Int32.toNatClampNeg p1) = some (.int v24) ∧ ∃ J26 : Int32 → Prop, J26 = (fun (j25 : Int32) => ∃ w27 : Value, ev_f h8 p0 4 0 = some w27 ∧ ∀ h28 : ev_AH, h28 = ev_s h8 p0 0 (.int j25) → J11 h28) ∧ ((v24 < 5 → J26 0) ∧ (¬ v24 < 5 → J26 2))))) ∧ ((¬ (ev_b (0 ≤ p1 ∧ p1 ≤ v2 - 1)) = 0 → J6 0) ∧ ((ev_b (0 ≤ p1 ∧ p1 ≤ v2 - 1)) = 0 → J6 1))) : Mt l G M_R_goOn [.ref p0, .int p1] h P := by
  refine Mt.of rfl rfl (Nat.le_of_ble_eq_true rfl) ?_
  show Ev l G M_R_goOn 0 [(0, .ref p0), (1, .int p1)] [] h 0 0 (ev_fin G M_R_goOn P)
  refine e_aload_n fR_goOn_0 rfl 0 rfl ?_
  refine e_aload_n fR_goOn_1 rfl 0 rfl ?_
  refine e_iload_n fR_goOn_2 rfl 1 rfl ?_
  obtain ⟨v2, gv2, V⟩ := V
  obtain ⟨gc, V⟩ := V
  refine e_callVi (uc' := 0) (us' := 0) (st := [.ref p0]) fR_goOn_3 wR_goOn_3 rfl rfl gc (sp_R_isOrder gv2) (Nat.le_of_ble_eq_true rfl) (by decide) (by decide) (fun r4 h3 ga => ?_) (fun E h3 gx => False.elim gx)
  obtain ⟨rfl, ge⟩ := ga
  replace ge := ge.symm
  subst ge
  obtain ⟨J6, VJ6, V⟩ := V
  have KJ6 : ∀ (j5 : Int32), J6 j5 → Ev l G M_R_goOn 14 [(0, .ref p0), (1, .int p1)] [.int j5, .ref p0] h 0 0 (ev_fin G M_R_goOn P) := by
    intro j5 hj
    have V := Eq.mp (congrFun VJ6 j5) hj
    obtain ⟨w7, gw7, V⟩ := V
    refine e_put fR_goOn_14 pR_71 gw7 rfl rfl (fun h8 eh8 => ?_)
    have V := V h8 eh8
    refine e_aload_n fR_goOn_17 rfl 0 rfl ?_
    obtain ⟨v9, gv9, V⟩ := V
    refine e_get fR_goOn_18 kR_71 gv9 ?_
    obtain ⟨J11, VJ11, V⟩ := V
    have KJ11 : ∀ (h10 : ev_AH), J11 h10 → Ev l G M_R_goOn 43 [(0, .ref p0), (1, .int p1)] [] h10 0 0 (ev_fin G M_R_goOn P) := by
      intro h10 hj
      have V := Eq.mp (congrFun VJ11 h10) hj
      refine e_aload_n fR_goOn_43 rfl 0 rfl ?_
      obtain ⟨v12, gv12, V⟩ := V
      refine e_get fR_goOn_44 kR_71 gv12 ?_
      refine e_if_le (tgt := 52) fR_goOn_47 (by decide) (fun z => ?_) (fun z => ?_)
      · have V := V.1 z
        refine e_aload_n fR_goOn_52 rfl 0 rfl ?_
        refine e_iload_n fR_goOn_53 rfl 1 rfl ?_
        obtain ⟨gc, V⟩ := V
        obtain ⟨A, X, hm, V, VX⟩ := V
        refine e_callVi (uc' := 0) (us' := 0) (st := []) fR_goOn_54 wR_goOn_54 rfl rfl gc hm (Nat.le_of_ble_eq_true rfl) (by decide) (by decide) (fun r14 h13 ga => ?_) (fun E h13 gx => ?_)
        · have V := V _ _ ga
          refine e_if_ne (tgt := 62) fR_goOn_57 (by decide) (fun z => ?_) (fun z => ?_)
          · have V := V.1 z
            refine e_aload_n fR_goOn_62 rfl 0 rfl ?_
            obtain ⟨v15, gv15, V⟩ := V
            refine e_get fR_goOn_63 kR_22 gv15 ?_
            refine e_iload_n fR_goOn_66 rfl 1 rfl ?_
            refine e_dup2 fR_goOn_67 rfl rfl ?_
            obtain ⟨v16, g0, gv16, V⟩ := V
            refine e_iald fR_goOn_68 g0 gv16 ?_
            refine e_iconst (v := 1) fR_goOn_69 (by decide) ?_
            refine e_iadd fR_goOn_70 ?_
            obtain ⟨w17, g0, gw17, V⟩ := V
            refine e_iast fR_goOn_71 g0 gw17 (fun h18 eh18 => ?_)
            have V := V h18 eh18
            refine e_aload_n fR_goOn_72 rfl 0 rfl ?_
            obtain ⟨v19, gv19, V⟩ := V
            refine e_get fR_goOn_73 kR_28 gv19 ?_
            refine e_iload_n fR_goOn_76 rfl 1 rfl ?_
            refine e_dup2 fR_goOn_77 rfl rfl ?_
            obtain ⟨v20, g0, gv20, V⟩ := V
            refine e_iald fR_goOn_78 g0 gv20 ?_
            refine e_iconst (v := 1) fR_goOn_79 (by decide) ?_
            refine e_iadd fR_goOn_80 ?_
            obtain ⟨w21, g0, gw21, V⟩ := V
            refine e_iast fR_goOn_81 g0 gw21 (fun h22 eh22 => ?_)
            have V := V h22 eh22
            refine e_iconst (v := 0) fR_goOn_82 (by decide) ?_
            refine e_istore_n (ls' := [(2, .int 0), (0, .ref p0), (1, .int p1)]) fR_goOn_83 rfl (by decide) rfl ?_
            exact Ev.loc [1, 2, 0] rfl V
          · have V := V.2 z
            refine e_iconst (v := -1) fR_goOn_60 (by decide) ?_
            exact e_iret fR_goOn_61 rfl V
        · exact e_out (by decide) (VX E _ gx)
      · have V := V.2 z
        refine e_iconst (v := 0) fR_goOn_50 (by decide) ?_
        exact e_iret fR_goOn_51 rfl V
    refine e_if_ne (tgt := 43) fR_goOn_21 (by decide) (fun z => ?_) (fun z => ?_)
    · have V := V.1 z
      exact Ev.widen (by decide) (by decide) (Ev.loc [0, 1] rfl (KJ11 _ V))
    · have V := V.2 z
      refine e_aload_n fR_goOn_24 rfl 0 rfl ?_
      refine e_aload_n fR_goOn_25 rfl 0 rfl ?_
      obtain ⟨v23, gv23, V⟩ := V
      refine e_get fR_goOn_26 kR_22 gv23 ?_
      refine e_iload_n fR_goOn_29 rfl 1 rfl ?_
      obtain ⟨v24, g0, gv24, V⟩ := V
      refine e_iald fR_goOn_30 g0 gv24 ?_
      refine e_iconst (v := 5) fR_goOn_31 (by decide) ?_
      obtain ⟨J26, VJ26, V⟩ := V
      have KJ26 : ∀ (j25 : Int32), J26 j25 → Ev l G M_R_goOn 40 [(0, .ref p0), (1, .int p1)] [.int j25, .ref p0] h8 0 0 (ev_fin G M_R_goOn P) := by
        intro j25 hj
        have V := Eq.mp (congrFun VJ26 j25) hj
        obtain ⟨w27, gw27, V⟩ := V
        refine e_put fR_goOn_40 pR_71 gw27 rfl rfl (fun h28 eh28 => ?_)
        have V := V h28 eh28
        exact Ev.widen (by decide) (by decide) (Ev.loc [0, 1] rfl (KJ11 _ V))
      refine e_icmp_lt (tgt := 39) fR_goOn_32 (by decide) (fun z => ?_) (fun z => ?_)
      · have V := V.1 z
        refine e_iconst (v := 0) fR_goOn_39 (by decide) ?_
        exact Ev.widen (by decide) (by decide) (Ev.loc [0, 1] rfl (KJ26 _ V))
      · have V := V.2 z
        refine e_iconst (v := 2) fR_goOn_35 (by decide) ?_
        refine e_goto (tgt := 40) fR_goOn_36 (by decide) ?_
        exact Ev.widen (by decide) (by decide) (Ev.loc [0, 1] rfl (KJ26 _ V))
  refine e_if_ne (tgt := 13) fR_goOn_6 (by decide) (fun z => ?_) (fun z => ?_)
  · have V := V.1 z
    refine e_iconst (v := 0) fR_goOn_13 (by decide) ?_
    exact Ev.widen (by decide) (by decide) (Ev.loc [0, 1] rfl (KJ6 _ V))
  · have V := V.2 z
    refine e_iconst (v := 1) fR_goOn_9 (by decide) ?_
    refine e_goto (tgt := 14) fR_goOn_10 (by decide) ?_
    exact Ev.widen (by decide) (by decide) (Ev.loc [0, 1] rfl (KJ6 _ V))
set_option maxRecDepth 20000 in
theorem vR_change {l : Launch} {G : ev_G} {h : ev_AH} {P : ev_Post} {p0 : Nat} {p1 : Int32} {p2 : Int32} {p3 : Int32} (V : ∃ J2 : Int32 → Prop, J2 = (fun (j1 : Int32) => ∃ v4 : Int32, ev_f h p0 4 12 = some (.int v4) ∧ (∃ fs : List Value, h p0 = some (4, fs)) ∧ ∃ J8 : Int32 → Prop, J8 = (fun (j7 : Int32) => ∃ w9 : Value, ev_f h p0 4 0 = some w9 ∧ ∀ h10 : ev_AH, h10 = ev_s h p0 0 (.int j7) → ∃ v11 : Int32, ev_f h10 p0 4 0 = some (.int v11) ∧ ∃ J13 : ev_AH → Prop, J13 = (fun (h12 : ev_AH) => ∃ v14 : Int32, ev_f h12 p0 4 0 = some (.int v14) ∧ ((v14 ≤ 0 → ∃ v15 : Nat, ev_f h12 p0 4 13 = some (.ref v15) ∧ ∃ v16 : Int32, ¬ p1 < 0 ∧ ev_f h12 v15 100 (Int32.toNatClampNeg p1) = some (.int v16) ∧ ∃ v17 : Nat, ev_f h12 p0 4 6 = some (.ref v17) ∧ ∃ v18 : Int32, ¬ v16 < 0 ∧ ev_f h12 v17 100 (Int32.toNatClampNeg v16) = some (.int v18) ∧ ∃ J20 : Int32 → Prop, J20 = (fun (j19 : Int32) => ((v18 ≤ j19 → ∃ J22 : Int32 → Prop, J22 = (fun (j21 : Int32) => ∃ w23 : Value, ev_f h12 p0 4 0 = some w23 ∧ ∀ h24 : ev_AH, h24 = ev_s h12 p0 0 (.int j21) → ∃ v25 : Int32, ev_f h24 p0 4 0 = some (.int v25) ∧ ((v25 ≤ 0 → ∃ J27 : ev_AH → Prop, J27 = (fun (h26 : ev_AH) => ∃ v28 : Nat, ev_f h26 p0 4 8 = some (.ref v28) ∧ ∃ v29 : Int32, ¬ v16 < 0 ∧ ev_f h26 v28 100 (Int32.toNatClampNeg v16) = some (.int v29) ∧ ∃ w30 : Value, ¬ v16 < 0 ∧ ev_f h26 v28 100 (Int32.toNatClampNeg v16) = some w30 ∧ ∀ h31 : ev_AH, h31 = ev_s h26 v28 (Int32.toNatClampNeg v16) (.int (v29 + 1)) → P (.inl (some (.int 1))) h31) ∧ ((¬ p2 = 0 → ((¬ p2 = 1 → ∃ v32 : Nat, ev_f h24 p0 4 16 = some (.ref v32) ∧ ∃ w33 : Value, ¬ p1 < 0 ∧ ev_f h24 v32 100 (Int32.toNatClampNeg p1) = some w33 ∧ ∀ h34 : ev_AH, h34 = ev_s h24 v32 (Int32.toNatClampNeg p1) (.int p3) → J27 h34) ∧ (p2 = 1 → ∃ v35 : Nat, ev_f h24 p0 4 15 = some (.ref v35) ∧ ∃ w36 : Value, ¬ p1 < 0 ∧ ev_f h24 v35 100 (Int32.toNatClampNeg p1) = some w36 ∧ ∀ h37 : ev_AH, h37 = ev_s h24 v35 (Int32.toNatClampNeg p1) (.int p3) → J27 h37))) ∧ (p2 = 0 → ∃ v38 : Nat, ev_f h24 p0 4 17 = some (.ref v38) ∧ ∃ w39 : Value, ¬ p1 < 0 ∧ ev_f h24 v38 100 (Int32.toNatClampNeg p1) = some w39 ∧ ∀ h40 : ev_AH, h40 = ev_s h24 v38 (Int32.toNatClampNeg p1) (.int p3) → ∃ v41 : Nat, ev_f h40 p0 4 18 = some (.ref v41) ∧ ∃ v42 : Nat, ev_f h40 p0 4 18 = some (.ref v42) ∧ ∃ v43 : Int32, ¬ p1 < 0 ∧ ev_f h40 v42 100 (Int32.toNatClampNeg p1) = some (.int v43) ∧ ∃ J45 : Int32 → Prop, J45 = (fun (j44 : Int32) => ∃ w46 : Value, ¬ p1 < 0 ∧ ev_f h40 v41 100 (Int32.toNatClampNeg p1) = some w46 ∧ ∀ h47 : ev_AH, h47 = ev_s h40 v41 (Int32.toNatClampNeg p1) (.int j44) → J27 h47) ∧ ((p3 ≤ v43 → J45 p3) ∧ (¬ p3 ≤ v43 → ∃ v48 : Nat, ev_f h40 p0 4 18 = some (.ref v48) ∧ ∃ v49 : Int32, ¬ p1 < 0 ∧ ev_f h40 v48 100 (Int32.toNatClampNeg p1) = some (.int v49) ∧ J45 v49))))) ∧ (¬ v25 ≤ 0 → P (.inl (some (.int 0))) h24))) ∧ ((¬ p2 = 1 → J22 0) ∧ (p2 = 1 → ∃ v51 : Int32, ev_ar h12 p0 16 p1 v51 ∧ (∃ fs : List Value, h12 p0 = some (4, fs)) ∧ (((ev_b (¬ (v51 &&& 2) = 0)) = 0 → J22 3) ∧ (¬ (ev_b (¬ (v51 &&& 2) = 0)) = 0 → ∃ v54 : Nat, ev_f h12 p0 4 14 = some (.ref v54) ∧ ∃ v55 : Int32, ¬ p1 < 0 ∧ ev_f h12 v54 100 (Int32.toNatClampNeg p1) = some (.int v55) ∧ ((¬ v55 = p3 → J22 0) ∧ (v55 = p3 → J22 3))))))) ∧ (¬ v18 ≤ j19 → P (.inl (some (.int 0))) h12))) ∧ ((¬ p2 = 2 → J20 0) ∧ (p2 = 2 → J20 1))) ∧ (¬ v14 ≤ 0 → P (.inl (some (.int 0))) h12))) ∧ ((¬ v11 = 0 → J13 h10) ∧ (v11 = 0 → ∃ v56 : Nat, ev_f h10 p0 4 21 = some (.ref v56) ∧ ∃ v57 : Int32, ¬ p1 < 0 ∧ ev_f h10 v56 101 (Int32.toNatClampNeg p1) = some (.int v57) ∧ ∃ J59 : Int32 → Prop, J59 = (fun (j58 : Int32) => ∃ w60 : Value, ev_f h10 p0 4 0 = some w60 ∧ ∀ h61 : ev_AH, h61 = ev_s h10 p0 0 (.int j58) → J13 h61) ∧ ((¬ v57 = 0 → J59 0) ∧ (v57 = 0 → J59 3))))) ∧ ((¬ (ev_b (0 ≤ p1 ∧ p1 ≤ v4 - 1)) = 0 → ((¬ j1 = 0 → J8 0) ∧ (j1 = 0 → J8 2))) ∧ ((ev_b (0 ≤ p1 ∧ p1 ≤ v4 - 1)) = 0 → J8 1))) ∧ ((¬ p2 = 0 → ((¬ p2 = 1 → ((¬ p2 = 2 → J2 0) ∧ (p2 = 2 → (((ev_b (0 ≤ p3 ∧ p3 ≤ 7)) = 0 → J2 0) ∧ (¬ (ev_b (0 ≤ p3 ∧ p3 ≤ 7)) = 0 → J2 1))))) ∧ (p2 = 1 → J2 (ev_b (0 ≤ p3 ∧ p3 ≤ 15))))) ∧ (p2 = 0 → J2 (ev_b (1 ≤ p3 ∧ p3 ≤ 1000))))) : Mt l G M_R_change [.ref p0, .int p1, .int p2, .int p3] h P := by
  refine Mt.of rfl rfl (Nat.le_of_ble_eq_true rfl) ?_
  show Ev l G M_R_change 0 [(0, .ref p0), (1, .int p1), (2, .int p2), (3, .int p3)] [] h 0 0 (ev_fin G M_R_change P)
  refine e_iload_n fR_change_0 rfl 2 rfl ?_
  obtain ⟨J2, VJ2, V⟩ := V
  have KJ2 : ∀ (j1 : Int32), J2 j1 → Ev l G M_R_change 50 [(0, .ref p0), (1, .int p1), (2, .int p2), (3, .int p3)] [.int j1] h 0 0 (ev_fin G M_R_change P) := by
    intro j1 hj
    have V := Eq.mp (congrFun VJ2 j1) hj
    refine e_istore (ls' := [(4, .int j1), (0, .ref p0), (1, .int p1), (2, .int p2), (3, .int p3)]) fR_change_50 (by decide) rfl ?_
    refine e_aload_n fR_change_52 rfl 1 rfl ?_
    refine e_aload_n fR_change_53 rfl 1 rfl ?_
    refine e_iload_n fR_change_54 rfl 2 rfl ?_
    obtain ⟨v4, gv4, V⟩ := V
    obtain ⟨gc, V⟩ := V
    refine e_callVi (uc' := 0) (us' := 0) (st := [.ref p0]) fR_change_55 wR_change_55 rfl rfl gc (sp_R_isLine gv4) (Nat.le_of_ble_eq_true rfl) (by decide) (by decide) (fun r6 h5 ga => ?_) (fun E h5 gx => False.elim gx)
    obtain ⟨rfl, ge⟩ := ga
    replace ge := ge.symm
    subst ge
    obtain ⟨J8, VJ8, V⟩ := V
    have KJ8 : ∀ (j7 : Int32), J8 j7 → Ev l G M_R_change 75 [(0, .ref p0), (1, .int p1), (2, .int p2), (3, .int p3), (4, .int j1)] [.int j7, .ref p0] h 0 0 (ev_fin G M_R_change P) := by
      intro j7 hj
      have V := Eq.mp (congrFun VJ8 j7) hj
      obtain ⟨w9, gw9, V⟩ := V
      refine e_put fR_change_75 pR_71 gw9 rfl rfl (fun h10 eh10 => ?_)
      have V := V h10 eh10
      refine e_aload_n fR_change_78 rfl 0 rfl ?_
      obtain ⟨v11, gv11, V⟩ := V
      refine e_get fR_change_79 kR_71 gv11 ?_
      obtain ⟨J13, VJ13, V⟩ := V
      have KJ13 : ∀ (h12 : ev_AH), J13 h12 → Ev l G M_R_change 103 [(0, .ref p0), (1, .int p1), (2, .int p2), (3, .int p3), (4, .int j1)] [] h12 0 0 (ev_fin G M_R_change P) := by
        intro h12 hj
        have V := Eq.mp (congrFun VJ13 h12) hj
        refine e_aload_n fR_change_103 rfl 0 rfl ?_
        obtain ⟨v14, gv14, V⟩ := V
        refine e_get fR_change_104 kR_71 gv14 ?_
        refine e_if_le (tgt := 112) fR_change_107 (by decide) (fun z => ?_) (fun z => ?_)
        · have V := V.1 z
          refine e_aload_n fR_change_112 rfl 0 rfl ?_
          obtain ⟨v15, gv15, V⟩ := V
          refine e_get fR_change_113 kR_40 gv15 ?_
          refine e_iload_n fR_change_116 rfl 1 rfl ?_
          obtain ⟨v16, g0, gv16, V⟩ := V
          refine e_iald fR_change_117 g0 gv16 ?_
          refine e_istore (ls' := [(5, .int v16), (0, .ref p0), (1, .int p1), (2, .int p2), (3, .int p3), (4, .int j1)]) fR_change_118 (by decide) rfl ?_
          refine e_aload_n fR_change_120 rfl 1 rfl ?_
          obtain ⟨v17, gv17, V⟩ := V
          refine e_get fR_change_121 kR_22 gv17 ?_
          refine e_iload fR_change_124 0 rfl ?_
          obtain ⟨v18, g0, gv18, V⟩ := V
          refine e_iald fR_change_126 g0 gv18 ?_
          refine e_iload_n fR_change_127 rfl 3 rfl ?_
          refine e_iconst (v := 2) fR_change_128 (by decide) ?_
          obtain ⟨J20, VJ20, V⟩ := V
          have KJ20 : ∀ (j19 : Int32), J20 j19 → Ev l G M_R_change 137 [(0, .ref p0), (1, .int p1), (2, .int p2), (3, .int p3), (4, .int j1), (5, .int v16)] [.int j19, .int v18] h12 0 0 (ev_fin G M_R_change P) := by
            intro j19 hj
            have V := Eq.mp (congrFun VJ20 j19) hj
            refine e_icmp_le (tgt := 142) fR_change_137 (by decide) (fun z => ?_) (fun z => ?_)
            · have V := V.1 z
              refine e_aload_n fR_change_142 rfl 0 rfl ?_
              refine e_iload_n fR_change_143 rfl 2 rfl ?_
              refine e_iconst (v := 1) fR_change_144 (by decide) ?_
              obtain ⟨J22, VJ22, V⟩ := V
              have KJ22 : ∀ (j21 : Int32), J22 j21 → Ev l G M_R_change 172 [(0, .ref p0), (1, .int p1), (2, .int p2), (3, .int p3), (4, .int j1), (5, .int v16)] [.int j21, .ref p0] h12 0 0 (ev_fin G M_R_change P) := by
                intro j21 hj
                have V := Eq.mp (congrFun VJ22 j21) hj
                obtain ⟨w23, gw23, V⟩ := V
                refine e_put fR_change_172 pR_71 gw23 rfl rfl (fun h24 eh24 => ?_)
                have V := V h24 eh24
                refine e_aload_n fR_change_175 rfl 0 rfl ?_
                obtain ⟨v25, gv25, V⟩ := V
                refine e_get fR_change_176 kR_71 gv25 ?_
                refine e_if_le (tgt := 184) fR_change_179 (by decide) (fun z => ?_) (fun z => ?_)
                · have V := V.1 z
                  refine e_iload_n fR_change_184 rfl 2 rfl ?_
                  obtain ⟨J27, VJ27, V⟩ := V
                  have KJ27 : ∀ (h26 : ev_AH), J27 h26 → Ev l G M_R_change 246 [(0, .ref p0), (1, .int p1), (2, .int p2), (3, .int p3), (4, .int j1), (5, .int v16)] [] h26 0 0 (ev_fin G M_R_change P) := by
                    intro h26 hj
                    have V := Eq.mp (congrFun VJ27 h26) hj
                    refine e_aload_n fR_change_246 rfl 0 rfl ?_
                    obtain ⟨v28, gv28, V⟩ := V
                    refine e_get fR_change_247 kR_28 gv28 ?_
                    refine e_iload fR_change_250 5 rfl ?_
                    refine e_dup2 fR_change_252 rfl rfl ?_
                    obtain ⟨v29, g0, gv29, V⟩ := V
                    refine e_iald fR_change_253 g0 gv29 ?_
                    refine e_iconst (v := 1) fR_change_254 (by decide) ?_
                    refine e_iadd fR_change_255 ?_
                    obtain ⟨w30, g0, gw30, V⟩ := V
                    refine e_iast fR_change_256 g0 gw30 (fun h31 eh31 => ?_)
                    have V := V h31 eh31
                    refine e_iconst (v := 1) fR_change_257 (by decide) ?_
                    exact e_zret fR_change_258 rfl rfl V
                  refine e_if_ne (tgt := 224) fR_change_185 (by decide) (fun z => ?_) (fun z => ?_)
                  · have V := V.1 z
                    refine e_iload_n fR_change_224 rfl 2 rfl ?_
                    refine e_iconst (v := 1) fR_change_225 (by decide) ?_
                    refine e_icmp_ne (tgt := 239) fR_change_226 (by decide) (fun z => ?_) (fun z => ?_)
                    · have V := V.1 z
                      refine e_aload_n fR_change_239 rfl 0 rfl ?_
                      obtain ⟨v32, gv32, V⟩ := V
                      refine e_get fR_change_240 kR_49 gv32 ?_
                      refine e_iload_n fR_change_243 rfl 1 rfl ?_
                      refine e_iload_n fR_change_244 rfl 3 rfl ?_
                      obtain ⟨w33, g0, gw33, V⟩ := V
                      refine e_iast fR_change_245 g0 gw33 (fun h34 eh34 => ?_)
                      have V := V h34 eh34
                      exact Ev.widen (by decide) (by decide) (Ev.loc [0, 1, 2, 3, 4, 5] rfl (KJ27 _ V))
                    · have V := V.2 z
                      refine e_aload_n fR_change_229 rfl 0 rfl ?_
                      obtain ⟨v35, gv35, V⟩ := V
                      refine e_get fR_change_230 kR_46 gv35 ?_
                      refine e_iload_n fR_change_233 rfl 1 rfl ?_
                      refine e_iload_n fR_change_234 rfl 3 rfl ?_
                      obtain ⟨w36, g0, gw36, V⟩ := V
                      refine e_iast fR_change_235 g0 gw36 (fun h37 eh37 => ?_)
                      have V := V h37 eh37
                      refine e_goto (tgt := 246) fR_change_236 (by decide) ?_
                      exact Ev.widen (by decide) (by decide) (Ev.loc [0, 1, 2, 3, 4, 5] rfl (KJ27 _ V))
                  · have V := V.2 z
                    refine e_aload_n fR_change_188 rfl 0 rfl ?_
                    obtain ⟨v38, gv38, V⟩ := V
                    refine e_get fR_change_189 kR_52 gv38 ?_
                    refine e_iload_n fR_change_192 rfl 1 rfl ?_
                    refine e_iload_n fR_change_193 rfl 3 rfl ?_
                    obtain ⟨w39, g0, gw39, V⟩ := V
                    refine e_iast fR_change_194 g0 gw39 (fun h40 eh40 => ?_)
                    have V := V h40 eh40
                    refine e_aload_n fR_change_195 rfl 0 rfl ?_
                    obtain ⟨v41, gv41, V⟩ := V
                    refine e_get fR_change_196 kR_55 gv41 ?_
                    refine e_iload_n fR_change_199 rfl 1 rfl ?_
                    refine e_aload_n fR_change_200 rfl 0 rfl ?_
                    obtain ⟨v42, gv42, V⟩ := V
                    refine e_get fR_change_201 kR_55 gv42 ?_
                    refine e_iload_n fR_change_204 rfl 1 rfl ?_
                    obtain ⟨v43, g0, gv43, V⟩ := V
                    refine e_iald fR_change_205 g0 gv43 ?_
                    refine e_iload_n fR_change_206 rfl 3 rfl ?_
                    obtain ⟨J45, VJ45, V⟩ := V
                    have KJ45 : ∀ (j44 : Int32), J45 j44 → Ev l G M_R_change 220 [(0, .ref p0), (1, .int p1), (2, .int p2), (3, .int p3), (4, .int j1), (5, .int v16)] [.int j44, .int p1, .ref v41] h40 0 0 (ev_fin G M_R_change P) := by
                      intro j44 hj
                      have V := Eq.mp (congrFun VJ45 j44) hj
                      obtain ⟨w46, g0, gw46, V⟩ := V
                      refine e_iast fR_change_220 g0 gw46 (fun h47 eh47 => ?_)
                      have V := V h47 eh47
                      refine e_goto (tgt := 246) fR_change_221 (by decide) ?_
                      exact Ev.widen (by decide) (by decide) (Ev.loc [0, 1, 2, 3, 4, 5] rfl (KJ27 _ V))
                    refine e_icmp_ge (tgt := 219) fR_change_207 (by decide) (fun z => ?_) (fun z => ?_)
                    · have V := V.1 z
                      refine e_iload_n fR_change_219 rfl 3 rfl ?_
                      exact Ev.widen (by decide) (by decide) (Ev.loc [0, 1, 2, 3, 4, 5] rfl (KJ45 _ V))
                    · have V := V.2 z
                      refine e_aload_n fR_change_210 rfl 0 rfl ?_
                      obtain ⟨v48, gv48, V⟩ := V
                      refine e_get fR_change_211 kR_55 gv48 ?_
                      refine e_iload_n fR_change_214 rfl 1 rfl ?_
                      obtain ⟨v49, g0, gv49, V⟩ := V
                      refine e_iald fR_change_215 g0 gv49 ?_
                      refine e_goto (tgt := 220) fR_change_216 (by decide) ?_
                      exact Ev.widen (by decide) (by decide) (Ev.loc [0, 1, 2, 3, 4, 5] rfl (KJ45 _ V))
                · have V := V.2 z
                  refine e_iconst (v := 0) fR_change_182 (by decide) ?_
                  exact e_zret fR_change_183 rfl rfl V
              refine e_icmp_ne (tgt := 171) fR_change_145 (by decide) (fun z => ?_) (fun z => ?_)
              · have V := V.1 z
                refine e_iconst (v := 0) fR_change_171 (by decide) ?_
                exact Ev.widen (by decide) (by decide) (Ev.loc [0, 1, 2, 3, 4, 5] rfl (KJ22 _ V))
              · have V := V.2 z
                refine e_aload_n fR_change_148 rfl 0 rfl ?_
                refine e_iload_n fR_change_149 rfl 1 rfl ?_
                refine e_iconst (v := 2) fR_change_150 (by decide) ?_
                obtain ⟨v51, gv51, V⟩ := V
                obtain ⟨gc, V⟩ := V
                refine e_callVi (uc' := 0) (us' := 0) (st := [.ref p0]) fR_change_151 wR_change_151 rfl rfl gc (sp_R_has gv51) (Nat.le_of_ble_eq_true rfl) (by decide) (by decide) (fun r53 h52 ga => ?_) (fun E h52 gx => False.elim gx)
                obtain ⟨rfl, ge⟩ := ga
                replace ge := ge.symm
                subst ge
                refine e_if_eq (tgt := 167) fR_change_154 (by decide) (fun z => ?_) (fun z => ?_)
                · have V := V.1 z
                  refine e_iconst (v := 3) fR_change_167 (by decide) ?_
                  refine e_goto (tgt := 172) fR_change_168 (by decide) ?_
                  exact Ev.widen (by decide) (by decide) (Ev.loc [0, 1, 2, 3, 4, 5] rfl (KJ22 _ V))
                · have V := V.2 z
                  refine e_aload_n fR_change_157 rfl 0 rfl ?_
                  obtain ⟨v54, gv54, V⟩ := V
                  refine e_get fR_change_158 kR_43 gv54 ?_
                  refine e_iload_n fR_change_161 rfl 1 rfl ?_
                  obtain ⟨v55, g0, gv55, V⟩ := V
                  refine e_iald fR_change_162 g0 gv55 ?_
                  refine e_iload_n fR_change_163 rfl 3 rfl ?_
                  refine e_icmp_ne (tgt := 171) fR_change_164 (by decide) (fun z => ?_) (fun z => ?_)
                  · have V := V.1 z
                    refine e_iconst (v := 0) fR_change_171 (by decide) ?_
                    exact Ev.widen (by decide) (by decide) (Ev.loc [0, 1, 2, 3, 4, 5] rfl (KJ22 _ V))
                  · have V := V.2 z
                    refine e_iconst (v := 3) fR_change_167 (by decide) ?_
                    refine e_goto (tgt := 172) fR_change_168 (by decide) ?_
                    exact Ev.widen (by decide) (by decide) (Ev.loc [0, 1, 2, 3, 4, 5] rfl (KJ22 _ V))
            · have V := V.2 z
              refine e_iconst (v := 0) fR_change_140 (by decide) ?_
              exact e_zret fR_change_141 rfl rfl V
          refine e_icmp_ne (tgt := 136) fR_change_129 (by decide) (fun z => ?_) (fun z => ?_)
          · have V := V.1 z
            refine e_iconst (v := 0) fR_change_136 (by decide) ?_
            exact Ev.widen (by decide) (by decide) (Ev.loc [1, 2, 3, 4, 5, 0] rfl (KJ20 _ V))
          · have V := V.2 z
            refine e_iconst (v := 1) fR_change_132 (by decide) ?_
            refine e_goto (tgt := 137) fR_change_133 (by decide) ?_
            exact Ev.widen (by decide) (by decide) (Ev.loc [1, 2, 3, 4, 5, 0] rfl (KJ20 _ V))
        · have V := V.2 z
          refine e_iconst (v := 0) fR_change_110 (by decide) ?_
          exact e_zret fR_change_111 rfl rfl V
      refine e_if_ne (tgt := 103) fR_change_82 (by decide) (fun z => ?_) (fun z => ?_)
      · have V := V.1 z
        exact Ev.widen (by decide) (by decide) (Ev.loc [0, 1, 2, 3, 4] rfl (KJ13 _ V))
      · have V := V.2 z
        refine e_aload_n fR_change_85 rfl 0 rfl ?_
        refine e_aload_n fR_change_86 rfl 0 rfl ?_
        obtain ⟨v56, gv56, V⟩ := V
        refine e_get fR_change_87 kR_64 gv56 ?_
        refine e_iload_n fR_change_90 rfl 1 rfl ?_
        obtain ⟨v57, g0, gv57, V⟩ := V
        refine e_zald fR_change_91 g0 gv57 ?_
        obtain ⟨J59, VJ59, V⟩ := V
        have KJ59 : ∀ (j58 : Int32), J59 j58 → Ev l G M_R_change 100 [(0, .ref p0), (1, .int p1), (2, .int p2), (3, .int p3), (4, .int j1)] [.int j58, .ref p0] h10 0 0 (ev_fin G M_R_change P) := by
          intro j58 hj
          have V := Eq.mp (congrFun VJ59 j58) hj
          obtain ⟨w60, gw60, V⟩ := V
          refine e_put fR_change_100 pR_71 gw60 rfl rfl (fun h61 eh61 => ?_)
          have V := V h61 eh61
          exact Ev.widen (by decide) (by decide) (Ev.loc [0, 1, 2, 3, 4] rfl (KJ13 _ V))
        refine e_if_ne (tgt := 99) fR_change_92 (by decide) (fun z => ?_) (fun z => ?_)
        · have V := V.1 z
          refine e_iconst (v := 0) fR_change_99 (by decide) ?_
          exact Ev.widen (by decide) (by decide) (Ev.loc [0, 1, 2, 3, 4] rfl (KJ59 _ V))
        · have V := V.2 z
          refine e_iconst (v := 3) fR_change_95 (by decide) ?_
          refine e_goto (tgt := 100) fR_change_96 (by decide) ?_
          exact Ev.widen (by decide) (by decide) (Ev.loc [0, 1, 2, 3, 4] rfl (KJ59 _ V))
    refine e_if_ne (tgt := 65) fR_change_58 (by decide) (fun z => ?_) (fun z => ?_)
    · have V := V.1 z
      refine e_iload fR_change_65 0 rfl ?_
      refine e_if_ne (tgt := 74) fR_change_67 (by decide) (fun z => ?_) (fun z => ?_)
      · have V := V.1 z
        refine e_iconst (v := 0) fR_change_74 (by decide) ?_
        exact Ev.widen (by decide) (by decide) (Ev.loc [1, 2, 3, 4, 0] rfl (KJ8 _ V))
      · have V := V.2 z
        refine e_iconst (v := 2) fR_change_70 (by decide) ?_
        refine e_goto (tgt := 75) fR_change_71 (by decide) ?_
        exact Ev.widen (by decide) (by decide) (Ev.loc [1, 2, 3, 4, 0] rfl (KJ8 _ V))
    · have V := V.2 z
      refine e_iconst (v := 1) fR_change_61 (by decide) ?_
      refine e_goto (tgt := 75) fR_change_62 (by decide) ?_
      exact Ev.widen (by decide) (by decide) (Ev.loc [1, 2, 3, 4, 0] rfl (KJ8 _ V))
  refine e_if_ne (tgt := 15) fR_change_1 (by decide) (fun z => ?_) (fun z => ?_)
  · have V := V.1 z
    refine e_iload_n fR_change_15 rfl 2 rfl ?_
    refine e_iconst (v := 1) fR_change_16 (by decide) ?_
    refine e_icmp_ne (tgt := 30) fR_change_17 (by decide) (fun z => ?_) (fun z => ?_)
    · have V := V.1 z
      refine e_iload_n fR_change_30 rfl 2 rfl ?_
      refine e_iconst (v := 2) fR_change_31 (by decide) ?_
      refine e_icmp_ne (tgt := 49) fR_change_32 (by decide) (fun z => ?_) (fun z => ?_)
      · have V := V.1 z
        refine e_iconst (v := 0) fR_change_49 (by decide) ?_
        exact Ev.widen (by decide) (by decide) (Ev.loc [0, 1, 2, 3] rfl (KJ2 _ V))
      · have V := V.2 z
        refine e_iload_n fR_change_35 rfl 3 rfl ?_
        refine e_iconst (v := 0) fR_change_36 (by decide) ?_
        refine e_bipush (v := 7) fR_change_37 (by decide) ?_
        refine e_callSi (uc' := 0) (us' := 0) (st := []) fR_change_39 wR_change_39 rfl rfl sp_R_in (Nat.le_of_ble_eq_true rfl) (by decide) (by decide) (fun r64 h63 ga => ?_) (fun E h63 gx => False.elim gx)
        obtain ⟨rfl, ge⟩ := ga
        replace ge := ge.symm
        subst ge
        refine e_if_eq (tgt := 49) fR_change_42 (by decide) (fun z => ?_) (fun z => ?_)
        · have V := V.1 z
          refine e_iconst (v := 0) fR_change_49 (by decide) ?_
          exact Ev.widen (by decide) (by decide) (Ev.loc [0, 1, 2, 3] rfl (KJ2 _ V))
        · have V := V.2 z
          refine e_iconst (v := 1) fR_change_45 (by decide) ?_
          refine e_goto (tgt := 50) fR_change_46 (by decide) ?_
          exact Ev.widen (by decide) (by decide) (Ev.loc [0, 1, 2, 3] rfl (KJ2 _ V))
    · have V := V.2 z
      refine e_iload_n fR_change_20 rfl 3 rfl ?_
      refine e_iconst (v := 0) fR_change_21 (by decide) ?_
      refine e_bipush (v := 15) fR_change_22 (by decide) ?_
      refine e_callSi (uc' := 0) (us' := 0) (st := []) fR_change_24 wR_change_24 rfl rfl sp_R_in (Nat.le_of_ble_eq_true rfl) (by decide) (by decide) (fun r67 h66 ga => ?_) (fun E h66 gx => False.elim gx)
      obtain ⟨rfl, ge⟩ := ga
      replace ge := ge.symm
      subst ge
      refine e_goto (tgt := 50) fR_change_27 (by decide) ?_
      exact Ev.widen (by decide) (by decide) (Ev.loc [0, 1, 2, 3] rfl (KJ2 _ V))
  · have V := V.2 z
    refine e_iload_n fR_change_4 rfl 3 rfl ?_
    refine e_iconst (v := 1) fR_change_5 (by decide) ?_
    refine e_sipush (v := 1000) fR_change_6 (by decide) ?_
    refine e_callSi (uc' := 0) (us' := 0) (st := []) fR_change_9 wR_change_9 rfl rfl sp_R_in (Nat.le_of_ble_eq_true rfl) (by decide) (by decide) (fun r70 h69 ga => ?_) (fun E h69 gx => False.elim gx)
    obtain ⟨rfl, ge⟩ := ga
    replace ge := ge.symm
    subst ge
    refine e_goto (tgt := 50) fR_change_12 (by decide) ?_
    exact Ev.widen (by decide) (by decide) (Ev.loc [0, 1, 2, 3] rfl (KJ2 _ V))
set_option maxRecDepth 20000 in
theorem vR_move {l : Launch} {G : ev_G} {h : ev_AH} {P : ev_Post} {p0 : Nat} {p1 : Int32} {p2 : Int32} (V : ∃ v2 : Int32, ev_f h p0 4 1 = some (.int v2) ∧ (∃ fs : List Value, h p0 = some (4, fs)) ∧ ∃ J6 : Int32 → Prop, J6 = (fun (j5 : Int32) => ∃ w7 : Value, ev_f h p0 4 0 = some w7 ∧ ∀ h8 : ev_AH, h8 = ev_s h p0 0 (.int j5) → ∃ v9 : Int32, ev_f h8 p0 4 0 = some (.int v9) ∧ ((0 < v9 → P (.inl (some (.int 0))) h8) ∧ (¬ 0 < v9 → ∃ v10 : Nat, ev_f h8 p0 4 6 = some (.ref v10) ∧ ∃ v11 : Int32, ¬ p1 < 0 ∧ ev_f h8 v10 100 (Int32.toNatClampNeg p1) = some (.int v11) ∧ ((v11 < 4 → ∃ v12 : Nat, ev_f h8 p0 4 5 = some (.ref v12) ∧ ∃ w13 : Value, ¬ p1 < 0 ∧ ev_f h8 v12 100 (Int32.toNatClampNeg p1) = some w13 ∧ ∀ h14 : ev_AH, h14 = ev_s h8 v12 (Int32.toNatClampNeg p1) (.int p2) → ∃ v15 : Nat, ev_f h14 p0 4 8 = some (.ref v15) ∧ ∃ v16 : Int32, ¬ p1 < 0 ∧ ev_f h14 v15 100 (Int32.toNatClampNeg p1) = some (.int v16) ∧ ∃ w17 : Value, ¬ p1 < 0 ∧ ev_f h14 v15 100 (Int32.toNatClampNeg p1) = some w17 ∧ ∀ h18 : ev_AH, h18 = ev_s h14 v15 (Int32.toNatClampNeg p1) (.int (v16 + 1)) → P (.inl (some (.int 1))) h18) ∧ (¬ v11 < 4 → P (.inl (some (.int 0))) h8))))) ∧ ((¬ (ev_b (0 ≤ p1 ∧ p1 ≤ v2 - 1)) = 0 → ((¬ (ev_b (0 ≤ p2 ∧ p2 ≤ 10000)) = 0 → J6 0) ∧ ((ev_b (0 ≤ p2 ∧ p2 ≤ 10000)) = 0 → J6 2))) ∧ ((ev_b (0 ≤ p1 ∧ p1 ≤ v2 - 1)) = 0 → J6 1))) : Mt l G M_R_move [.ref p0, .int p1, .int p2] h P := by
  refine Mt.of rfl rfl (Nat.le_of_ble_eq_true rfl) ?_
  show Ev l G M_R_move 0 [(0, .ref p0), (1, .int p1), (2, .int p2)] [] h 0 0 (ev_fin G M_R_move P)
  refine e_aload_n fR_move_0 rfl 0 rfl ?_
  refine e_aload_n fR_move_1 rfl 0 rfl ?_
  refine e_iload_n fR_move_2 rfl 1 rfl ?_
  obtain ⟨v2, gv2, V⟩ := V
  obtain ⟨gc, V⟩ := V
  refine e_callVi (uc' := 0) (us' := 0) (st := [.ref p0]) fR_move_3 wR_move_3 rfl rfl gc (sp_R_isOrder gv2) (Nat.le_of_ble_eq_true rfl) (by decide) (by decide) (fun r4 h3 ga => ?_) (fun E h3 gx => False.elim gx)
  obtain ⟨rfl, ge⟩ := ga
  replace ge := ge.symm
  subst ge
  obtain ⟨J6, VJ6, V⟩ := V
  have KJ6 : ∀ (j5 : Int32), J6 j5 → Ev l G M_R_move 29 [(0, .ref p0), (1, .int p1), (2, .int p2)] [.int j5, .ref p0] h 0 0 (ev_fin G M_R_move P) := by
    intro j5 hj
    have V := Eq.mp (congrFun VJ6 j5) hj
    obtain ⟨w7, gw7, V⟩ := V
    refine e_put fR_move_29 pR_71 gw7 rfl rfl (fun h8 eh8 => ?_)
    have V := V h8 eh8
    refine e_aload_n fR_move_32 rfl 0 rfl ?_
    obtain ⟨v9, gv9, V⟩ := V
    refine e_get fR_move_33 kR_71 gv9 ?_
    refine e_if_gt (tgt := 49) fR_move_36 (by decide) (fun z => ?_) (fun z => ?_)
    · have V := V.1 z
      refine e_iconst (v := 0) fR_move_49 (by decide) ?_
      exact e_zret fR_move_50 rfl rfl V
    · have V := V.2 z
      refine e_aload_n fR_move_39 rfl 0 rfl ?_
      obtain ⟨v10, gv10, V⟩ := V
      refine e_get fR_move_40 kR_22 gv10 ?_
      refine e_iload_n fR_move_43 rfl 1 rfl ?_
      obtain ⟨v11, g0, gv11, V⟩ := V
      refine e_iald fR_move_44 g0 gv11 ?_
      refine e_iconst (v := 4) fR_move_45 (by decide) ?_
      refine e_icmp_lt (tgt := 51) fR_move_46 (by decide) (fun z => ?_) (fun z => ?_)
      · have V := V.1 z
        refine e_aload_n fR_move_51 rfl 0 rfl ?_
        obtain ⟨v12, gv12, V⟩ := V
        refine e_get fR_move_52 kR_19 gv12 ?_
        refine e_iload_n fR_move_55 rfl 1 rfl ?_
        refine e_iload_n fR_move_56 rfl 2 rfl ?_
        obtain ⟨w13, g0, gw13, V⟩ := V
        refine e_iast fR_move_57 g0 gw13 (fun h14 eh14 => ?_)
        have V := V h14 eh14
        refine e_aload_n fR_move_58 rfl 0 rfl ?_
        obtain ⟨v15, gv15, V⟩ := V
        refine e_get fR_move_59 kR_28 gv15 ?_
        refine e_iload_n fR_move_62 rfl 1 rfl ?_
        refine e_dup2 fR_move_63 rfl rfl ?_
        obtain ⟨v16, g0, gv16, V⟩ := V
        refine e_iald fR_move_64 g0 gv16 ?_
        refine e_iconst (v := 1) fR_move_65 (by decide) ?_
        refine e_iadd fR_move_66 ?_
        obtain ⟨w17, g0, gw17, V⟩ := V
        refine e_iast fR_move_67 g0 gw17 (fun h18 eh18 => ?_)
        have V := V h18 eh18
        refine e_iconst (v := 1) fR_move_68 (by decide) ?_
        exact e_zret fR_move_69 rfl rfl V
      · have V := V.2 z
        refine e_iconst (v := 0) fR_move_49 (by decide) ?_
        exact e_zret fR_move_50 rfl rfl V
  refine e_if_ne (tgt := 13) fR_move_6 (by decide) (fun z => ?_) (fun z => ?_)
  · have V := V.1 z
    refine e_iload_n fR_move_13 rfl 2 rfl ?_
    refine e_iconst (v := 0) fR_move_14 (by decide) ?_
    refine e_sipush (v := 10000) fR_move_15 (by decide) ?_
    refine e_callSi (uc' := 0) (us' := 0) (st := [.ref p0]) fR_move_18 wR_move_18 rfl rfl sp_R_in (Nat.le_of_ble_eq_true rfl) (by decide) (by decide) (fun r21 h20 ga => ?_) (fun E h20 gx => False.elim gx)
    obtain ⟨rfl, ge⟩ := ga
    replace ge := ge.symm
    subst ge
    refine e_if_ne (tgt := 28) fR_move_21 (by decide) (fun z => ?_) (fun z => ?_)
    · have V := V.1 z
      refine e_iconst (v := 0) fR_move_28 (by decide) ?_
      exact Ev.widen (by decide) (by decide) (Ev.loc [0, 1, 2] rfl (KJ6 _ V))
    · have V := V.2 z
      refine e_iconst (v := 2) fR_move_24 (by decide) ?_
      refine e_goto (tgt := 29) fR_move_25 (by decide) ?_
      exact Ev.widen (by decide) (by decide) (Ev.loc [0, 1, 2] rfl (KJ6 _ V))
  · have V := V.2 z
    refine e_iconst (v := 1) fR_move_9 (by decide) ?_
    refine e_goto (tgt := 29) fR_move_10 (by decide) ?_
    exact Ev.widen (by decide) (by decide) (Ev.loc [0, 1, 2] rfl (KJ6 _ V))
set_option maxRecDepth 20000 in
theorem vR_cancel {l : Launch} {G : ev_G} {h : ev_AH} {P : ev_Post} {p0 : Nat} {p1 : Int32} (V : ∃ v2 : Int32, ev_f h p0 4 12 = some (.int v2) ∧ (∃ fs : List Value, h p0 = some (4, fs)) ∧ ∃ J6 : Int32 → Prop, J6 = (fun (j5 : Int32) => ∃ w7 : Value, ev_f h p0 4 0 = some w7 ∧ ∀ h8 : ev_AH, h8 = ev_s h p0 0 (.int j5) → ∃ v9 : Int32, ev_f h8 p0 4 0 = some (.int v9) ∧ ∃ J11 : ev_AH → Prop, J11 = (fun (h10 : ev_AH) => ∃ v12 : Int32, ev_f h10 p0 4 0 = some (.int v12) ∧ ((v12 ≤ 0 → ∃ v13 : Nat, ev_f h10 p0 4 18 = some (.ref v13) ∧ ∃ v14 : Int32, ¬ p1 < 0 ∧ ev_f h10 v13 100 (Int32.toNatClampNeg p1) = some (.int v14) ∧ ∃ v15 : Nat, ev_f h10 p0 4 21 = some (.ref v15) ∧ ∃ w16 : Value, ¬ p1 < 0 ∧ ev_f h10 v15 101 (Int32.toNatClampNeg p1) = some w16 ∧ ∀ h17 : ev_AH, h17 = ev_s h10 v15 (Int32.toNatClampNeg p1) (narrow .boolean (.int 0)) → ∃ v18 : Nat, ev_f h17 p0 4 17 = some (.ref v18) ∧ ∃ w19 : Value, ¬ p1 < 0 ∧ ev_f h17 v18 100 (Int32.toNatClampNeg p1) = some w19 ∧ ∀ h20 : ev_AH, h20 = ev_s h17 v18 (Int32.toNatClampNeg p1) (.int 0) → ∃ v21 : Nat, ev_f h20 p0 4 18 = some (.ref v21) ∧ ∃ w22 : Value, ¬ p1 < 0 ∧ ev_f h20 v21 100 (Int32.toNatClampNeg p1) = some w22 ∧ ∀ h23 : ev_AH, h23 = ev_s h20 v21 (Int32.toNatClampNeg p1) (.int 0) → ∃ v24 : Nat, ev_f h23 p0 4 19 = some (.ref v24) ∧ ∃ w25 : Value, ¬ p1 < 0 ∧ ev_f h23 v24 100 (Int32.toNatClampNeg p1) = some w25 ∧ ∀ h26 : ev_AH, h26 = ev_s h23 v24 (Int32.toNatClampNeg p1) (.int 0) → ∃ v27 : Nat, ev_f h26 p0 4 8 = some (.ref v27) ∧ ∃ v28 : Nat, ev_f h26 p0 4 13 = some (.ref v28) ∧ ∃ v29 : Int32, ¬ p1 < 0 ∧ ev_f h26 v28 100 (Int32.toNatClampNeg p1) = some (.int v29) ∧ ∃ v30 : Int32, ¬ v29 < 0 ∧ ev_f h26 v27 100 (Int32.toNatClampNeg v29) = some (.int v30) ∧ ∃ w31 : Value, ¬ v29 < 0 ∧ ev_f h26 v27 100 (Int32.toNatClampNeg v29) = some w31 ∧ ∀ h32 : ev_AH, h32 = ev_s h26 v27 (Int32.toNatClampNeg v29) (.int (v30 + 1)) → ∃ v33 : Nat, ev_f h32 p0 4 13 = some (.ref v33) ∧ ∃ v34 : Int32, ¬ p1 < 0 ∧ ev_f h32 v33 100 (Int32.toNatClampNeg p1) = some (.int v34) ∧ (∃ fs : List Value, h32 p0 = some (4, fs)) ∧ ∃ (A : Int32 → ev_AH → Prop) (X : String → ev_AH → Prop), Mt l G M_R_liveLines [.ref p0, .int v34] h32 (ev_pi A X) ∧ (∀ (r36 : Int32) (h35 : ev_AH), A r36 h35 → ((¬ r36 = 0 → P (.inl (some (.int v14))) h35) ∧ (r36 = 0 → ∃ v37 : Nat, ev_f h35 p0 4 6 = some (.ref v37) ∧ ∃ v38 : Nat, ev_f h35 p0 4 13 = some (.ref v38) ∧ ∃ v39 : Int32, ¬ p1 < 0 ∧ ev_f h35 v38 100 (Int32.toNatClampNeg p1) = some (.int v39) ∧ ∃ w40 : Value, ¬ v39 < 0 ∧ ev_f h35 v37 100 (Int32.toNatClampNeg v39) = some w40 ∧ ∀ h41 : ev_AH, h41 = ev_s h35 v37 (Int32.toNatClampNeg v39) (.int 6) → P (.inl (some (.int v14))) h41))) ∧ (∀ (E : String) (h9 : ev_AH), X E h9 → P (.inr E) h9)) ∧ (¬ v12 ≤ 0 → P (.inl (some (.int 0))) h10))) ∧ ((¬ v9 = 0 → J11 h8) ∧ (v9 = 0 → ∃ v42 : Nat, ev_f h8 p0 4 21 = some (.ref v42) ∧ ∃ v43 : Int32, ¬ p1 < 0 ∧ ev_f h8 v42 101 (Int32.toNatClampNeg p1) = some (.int v43) ∧ ∃ J45 : Int32 → Prop, J45 = (fun (j44 : Int32) => ∃ w46 : Value, ev_f h8 p0 4 0 = some w46 ∧ ∀ h47 : ev_AH, h47 = ev_s h8 p0 0 (.int j44) → J11 h47) ∧ ((v43 = 0 → J45 2) ∧ (¬ v43 = 0 → ∃ v48 : Nat, ev_f h8 p0 4 6 = some (.ref v48) ∧ ∃ v49 : Nat, ev_f h8 p0 4 13 = some (.ref v49) ∧ ∃ v50 : Int32, ¬ p1 < 0 ∧ ev_f h8 v49 100 (Int32.toNatClampNeg p1) = some (.int v50) ∧ ∃ v51 : Int32, ¬ v50 < 0 ∧ ev_f h8 v48 100 (Int32.toNatClampNeg v50) = some (.int v51) ∧ ((v51 ≤ 2 → J45 0) ∧ (¬ v51 ≤ 2 → J45 2))))))) ∧ ((¬ (ev_b (0 ≤ p1 ∧ p1 ≤ v2 - 1)) = 0 → J6 0) ∧ ((ev_b (0 ≤ p1 ∧ p1 ≤ v2 - 1)) = 0 → J6 1))) : Mt l G M_R_cancel [.ref p0, .int p1] h P := by
  refine Mt.of rfl rfl (Nat.le_of_ble_eq_true rfl) ?_
  show Ev l G M_R_cancel 0 [(0, .ref p0), (1, .int p1)] [] h 0 0 (ev_fin G M_R_cancel P)
  refine e_aload_n fR_cancel_0 rfl 0 rfl ?_
  refine e_aload_n fR_cancel_1 rfl 0 rfl ?_
  refine e_iload_n fR_cancel_2 rfl 1 rfl ?_
  obtain ⟨v2, gv2, V⟩ := V
  obtain ⟨gc, V⟩ := V
  refine e_callVi (uc' := 0) (us' := 0) (st := [.ref p0]) fR_cancel_3 wR_cancel_3 rfl rfl gc (sp_R_isLine gv2) (Nat.le_of_ble_eq_true rfl) (by decide) (by decide) (fun r4 h3 ga => ?_) (fun E h3 gx => False.elim gx)
  obtain ⟨rfl, ge⟩ := ga
  replace ge := ge.symm
  subst ge
  obtain ⟨J6, VJ6, V⟩ := V
  have KJ6 : ∀ (j5 : Int32), J6 j5 → Ev l G M_R_cancel 14 [(0, .ref p0), (1, .int p1)] [.int j5, .ref p0] h 0 0 (ev_fin G M_R_cancel P) := by
    intro j5 hj
    have V := Eq.mp (congrFun VJ6 j5) hj
    obtain ⟨w7, gw7, V⟩ := V
    refine e_put fR_cancel_14 pR_71 gw7 rfl rfl (fun h8 eh8 => ?_)
    have V := V h8 eh8
    refine e_aload_n fR_cancel_17 rfl 0 rfl ?_
    obtain ⟨v9, gv9, V⟩ := V
    refine e_get fR_cancel_18 kR_71 gv9 ?_
    obtain ⟨J11, VJ11, V⟩ := V
    have KJ11 : ∀ (h10 : ev_AH), J11 h10 → Ev l G M_R_cancel 57 [(0, .ref p0), (1, .int p1)] [] h10 0 0 (ev_fin G M_R_cancel P) := by
      intro h10 hj
      have V := Eq.mp (congrFun VJ11 h10) hj
      refine e_aload_n fR_cancel_57 rfl 0 rfl ?_
      obtain ⟨v12, gv12, V⟩ := V
      refine e_get fR_cancel_58 kR_71 gv12 ?_
      refine e_if_le (tgt := 66) fR_cancel_61 (by decide) (fun z => ?_) (fun z => ?_)
      · have V := V.1 z
        refine e_aload_n fR_cancel_66 rfl 0 rfl ?_
        obtain ⟨v13, gv13, V⟩ := V
        refine e_get fR_cancel_67 kR_55 gv13 ?_
        refine e_iload_n fR_cancel_70 rfl 1 rfl ?_
        obtain ⟨v14, g0, gv14, V⟩ := V
        refine e_iald fR_cancel_71 g0 gv14 ?_
        refine e_istore_n (ls' := [(2, .int v14), (0, .ref p0), (1, .int p1)]) fR_cancel_72 rfl (by decide) rfl ?_
        refine e_aload_n fR_cancel_73 rfl 1 rfl ?_
        obtain ⟨v15, gv15, V⟩ := V
        refine e_get fR_cancel_74 kR_64 gv15 ?_
        refine e_iload_n fR_cancel_77 rfl 2 rfl ?_
        refine e_iconst (v := 0) fR_cancel_78 (by decide) ?_
        obtain ⟨w16, g0, gw16, V⟩ := V
        refine e_zast fR_cancel_79 g0 gw16 (fun h17 eh17 => ?_)
        have V := V h17 eh17
        refine e_aload_n fR_cancel_80 rfl 1 rfl ?_
        obtain ⟨v18, gv18, V⟩ := V
        refine e_get fR_cancel_81 kR_52 gv18 ?_
        refine e_iload_n fR_cancel_84 rfl 2 rfl ?_
        refine e_iconst (v := 0) fR_cancel_85 (by decide) ?_
        obtain ⟨w19, g0, gw19, V⟩ := V
        refine e_iast fR_cancel_86 g0 gw19 (fun h20 eh20 => ?_)
        have V := V h20 eh20
        refine e_aload_n fR_cancel_87 rfl 1 rfl ?_
        obtain ⟨v21, gv21, V⟩ := V
        refine e_get fR_cancel_88 kR_55 gv21 ?_
        refine e_iload_n fR_cancel_91 rfl 2 rfl ?_
        refine e_iconst (v := 0) fR_cancel_92 (by decide) ?_
        obtain ⟨w22, g0, gw22, V⟩ := V
        refine e_iast fR_cancel_93 g0 gw22 (fun h23 eh23 => ?_)
        have V := V h23 eh23
        refine e_aload_n fR_cancel_94 rfl 1 rfl ?_
        obtain ⟨v24, gv24, V⟩ := V
        refine e_get fR_cancel_95 kR_58 gv24 ?_
        refine e_iload_n fR_cancel_98 rfl 2 rfl ?_
        refine e_iconst (v := 0) fR_cancel_99 (by decide) ?_
        obtain ⟨w25, g0, gw25, V⟩ := V
        refine e_iast fR_cancel_100 g0 gw25 (fun h26 eh26 => ?_)
        have V := V h26 eh26
        refine e_aload_n fR_cancel_101 rfl 1 rfl ?_
        obtain ⟨v27, gv27, V⟩ := V
        refine e_get fR_cancel_102 kR_28 gv27 ?_
        refine e_aload_n fR_cancel_105 rfl 1 rfl ?_
        obtain ⟨v28, gv28, V⟩ := V
        refine e_get fR_cancel_106 kR_40 gv28 ?_
        refine e_iload_n fR_cancel_109 rfl 2 rfl ?_
        obtain ⟨v29, g0, gv29, V⟩ := V
        refine e_iald fR_cancel_110 g0 gv29 ?_
        refine e_dup2 fR_cancel_111 rfl rfl ?_
        obtain ⟨v30, g0, gv30, V⟩ := V
        refine e_iald fR_cancel_112 g0 gv30 ?_
        refine e_iconst (v := 1) fR_cancel_113 (by decide) ?_
        refine e_iadd fR_cancel_114 ?_
        obtain ⟨w31, g0, gw31, V⟩ := V
        refine e_iast fR_cancel_115 g0 gw31 (fun h32 eh32 => ?_)
        have V := V h32 eh32
        refine e_aload_n fR_cancel_116 rfl 1 rfl ?_
        refine e_aload_n fR_cancel_117 rfl 1 rfl ?_
        obtain ⟨v33, gv33, V⟩ := V
        refine e_get fR_cancel_118 kR_40 gv33 ?_
        refine e_iload_n fR_cancel_121 rfl 2 rfl ?_
        obtain ⟨v34, g0, gv34, V⟩ := V
        refine e_iald fR_cancel_122 g0 gv34 ?_
        obtain ⟨gc, V⟩ := V
        obtain ⟨A, X, hm, V, VX⟩ := V
        refine e_callVi (uc' := 0) (us' := 0) (st := []) fR_cancel_123 wR_cancel_123 rfl rfl gc hm (Nat.le_of_ble_eq_true rfl) (by decide) (by decide) (fun r36 h35 ga => ?_) (fun E h35 gx => ?_)
        · have V := V _ _ ga
          refine e_if_ne (tgt := 142) fR_cancel_126 (by decide) (fun z => ?_) (fun z => ?_)
          · have V := V.1 z
            refine e_iload_n fR_cancel_142 rfl 0 rfl ?_
            exact e_iret fR_cancel_143 rfl V
          · have V := V.2 z
            refine e_aload_n fR_cancel_129 rfl 1 rfl ?_
            obtain ⟨v37, gv37, V⟩ := V
            refine e_get fR_cancel_130 kR_22 gv37 ?_
            refine e_aload_n fR_cancel_133 rfl 1 rfl ?_
            obtain ⟨v38, gv38, V⟩ := V
            refine e_get fR_cancel_134 kR_40 gv38 ?_
            refine e_iload_n fR_cancel_137 rfl 2 rfl ?_
            obtain ⟨v39, g0, gv39, V⟩ := V
            refine e_iald fR_cancel_138 g0 gv39 ?_
            refine e_bipush (v := 6) fR_cancel_139 (by decide) ?_
            obtain ⟨w40, g0, gw40, V⟩ := V
            refine e_iast fR_cancel_141 g0 gw40 (fun h41 eh41 => ?_)
            have V := V h41 eh41
            refine e_iload_n fR_cancel_142 rfl 0 rfl ?_
            exact e_iret fR_cancel_143 rfl V
        · exact e_out (by decide) (VX E _ gx)
      · have V := V.2 z
        refine e_iconst (v := 0) fR_cancel_64 (by decide) ?_
        exact e_iret fR_cancel_65 rfl V
    refine e_if_ne (tgt := 57) fR_cancel_21 (by decide) (fun z => ?_) (fun z => ?_)
    · have V := V.1 z
      exact Ev.widen (by decide) (by decide) (Ev.loc [0, 1] rfl (KJ11 _ V))
    · have V := V.2 z
      refine e_aload_n fR_cancel_24 rfl 0 rfl ?_
      refine e_aload_n fR_cancel_25 rfl 0 rfl ?_
      obtain ⟨v42, gv42, V⟩ := V
      refine e_get fR_cancel_26 kR_64 gv42 ?_
      refine e_iload_n fR_cancel_29 rfl 1 rfl ?_
      obtain ⟨v43, g0, gv43, V⟩ := V
      refine e_zald fR_cancel_30 g0 gv43 ?_
      obtain ⟨J45, VJ45, V⟩ := V
      have KJ45 : ∀ (j44 : Int32), J45 j44 → Ev l G M_R_cancel 54 [(0, .ref p0), (1, .int p1)] [.int j44, .ref p0] h8 0 0 (ev_fin G M_R_cancel P) := by
        intro j44 hj
        have V := Eq.mp (congrFun VJ45 j44) hj
        obtain ⟨w46, gw46, V⟩ := V
        refine e_put fR_cancel_54 pR_71 gw46 rfl rfl (fun h47 eh47 => ?_)
        have V := V h47 eh47
        exact Ev.widen (by decide) (by decide) (Ev.loc [0, 1] rfl (KJ11 _ V))
      refine e_if_eq (tgt := 49) fR_cancel_31 (by decide) (fun z => ?_) (fun z => ?_)
      · have V := V.1 z
        refine e_iconst (v := 2) fR_cancel_49 (by decide) ?_
        refine e_goto (tgt := 54) fR_cancel_50 (by decide) ?_
        exact Ev.widen (by decide) (by decide) (Ev.loc [0, 1] rfl (KJ45 _ V))
      · have V := V.2 z
        refine e_aload_n fR_cancel_34 rfl 0 rfl ?_
        obtain ⟨v48, gv48, V⟩ := V
        refine e_get fR_cancel_35 kR_22 gv48 ?_
        refine e_aload_n fR_cancel_38 rfl 0 rfl ?_
        obtain ⟨v49, gv49, V⟩ := V
        refine e_get fR_cancel_39 kR_40 gv49 ?_
        refine e_iload_n fR_cancel_42 rfl 1 rfl ?_
        obtain ⟨v50, g0, gv50, V⟩ := V
        refine e_iald fR_cancel_43 g0 gv50 ?_
        obtain ⟨v51, g0, gv51, V⟩ := V
        refine e_iald fR_cancel_44 g0 gv51 ?_
        refine e_iconst (v := 2) fR_cancel_45 (by decide) ?_
        refine e_icmp_le (tgt := 53) fR_cancel_46 (by decide) (fun z => ?_) (fun z => ?_)
        · have V := V.1 z
          refine e_iconst (v := 0) fR_cancel_53 (by decide) ?_
          exact Ev.widen (by decide) (by decide) (Ev.loc [0, 1] rfl (KJ45 _ V))
        · have V := V.2 z
          refine e_iconst (v := 2) fR_cancel_49 (by decide) ?_
          refine e_goto (tgt := 54) fR_cancel_50 (by decide) ?_
          exact Ev.widen (by decide) (by decide) (Ev.loc [0, 1] rfl (KJ45 _ V))
  refine e_if_ne (tgt := 13) fR_cancel_6 (by decide) (fun z => ?_) (fun z => ?_)
  · have V := V.1 z
    refine e_iconst (v := 0) fR_cancel_13 (by decide) ?_
    exact Ev.widen (by decide) (by decide) (Ev.loc [0, 1] rfl (KJ6 _ V))
  · have V := V.2 z
    refine e_iconst (v := 1) fR_cancel_9 (by decide) ?_
    refine e_goto (tgt := 14) fR_cancel_10 (by decide) ?_
    exact Ev.widen (by decide) (by decide) (Ev.loc [0, 1] rfl (KJ6 _ V))
set_option maxRecDepth 20000 in
theorem vR_join_133 {l : Launch} {G : ev_G} {h : ev_AH} {P : ev_Post} {a0 : Nat} {a1 : Int32} {a2 : Int32} {a3 : Int32} (V : ∃ v1 : Nat, ev_f h a0 4 10 = some (.ref v1) ∧ ∃ v2 : Int32, ¬ a2 < 0 ∧ ev_f h v1 100 (Int32.toNatClampNeg a2) = some (.int v2) ∧ ((v2 ≤ a3 → ∃ v3 : Nat, ev_f h a0 4 10 = some (.ref v3) ∧ ∃ w4 : Value, ¬ a2 < 0 ∧ ev_f h v3 100 (Int32.toNatClampNeg a2) = some w4 ∧ ∀ h5 : ev_AH, h5 = ev_s h v3 (Int32.toNatClampNeg a2) (.int 0) → ∃ v6 : Nat, ev_f h5 a0 4 6 = some (.ref v6) ∧ ∃ w7 : Value, ¬ a2 < 0 ∧ ev_f h5 v6 100 (Int32.toNatClampNeg a2) = some w7 ∧ ∀ h8 : ev_AH, h8 = ev_s h5 v6 (Int32.toNatClampNeg a2) (.int 7) → ∃ v9 : Nat, ev_f h8 a0 4 9 = some (.ref v9) ∧ ∃ w10 : Value, ¬ a2 < 0 ∧ ev_f h8 v9 100 (Int32.toNatClampNeg a2) = some w10 ∧ ∀ h11 : ev_AH, h11 = ev_s h8 v9 (Int32.toNatClampNeg a2) (.int a1) → ∃ v12 : Nat, ev_f h11 a0 4 8 = some (.ref v12) ∧ ∃ v13 : Int32, ¬ a1 < 0 ∧ ev_f h11 v12 100 (Int32.toNatClampNeg a1) = some (.int v13) ∧ ∃ w14 : Value, ¬ a1 < 0 ∧ ev_f h11 v12 100 (Int32.toNatClampNeg a1) = some w14 ∧ ∀ h15 : ev_AH, h15 = ev_s h11 v12 (Int32.toNatClampNeg a1) (.int (v13 + 1)) → ∃ v16 : Nat, ev_f h15 a0 4 8 = some (.ref v16) ∧ ∃ v17 : Int32, ¬ a2 < 0 ∧ ev_f h15 v16 100 (Int32.toNatClampNeg a2) = some (.int v17) ∧ ∃ w18 : Value, ¬ a2 < 0 ∧ ev_f h15 v16 100 (Int32.toNatClampNeg a2) = some w18 ∧ ∀ h19 : ev_AH, h19 = ev_s h15 v16 (Int32.toNatClampNeg a2) (.int (v17 + 1)) → P (.inl none) h19) ∧ (¬ v2 ≤ a3 → ∃ v21 : Int32, ev_ar h a0 11 (8 * a2 + a3) v21 ∧ (∃ fs : List Value, h a0 = some (4, fs)) ∧ (∃ fs : List Value, h a0 = some (4, fs)) ∧ ∃ (A : ev_AH → Prop) (X : String → ev_AH → Prop), Mt l G M_R_hang [.ref a0, .int a1, .int v21] h (ev_pv A X) ∧ (∀ h24 : ev_AH, A h24 → ∀ x25 : Int32, x25 = a3 + 1 → Ev l G M_R_join 133 [(0, .ref a0), (1, .int a1), (2, .int a2), (3, .int x25)] [] h24 0 0 (ev_fin G M_R_join P)) ∧ (∀ (E : String) (h9 : ev_AH), X E h9 → P (.inr E) h9)))) : Ev l G M_R_join 133 [(0, .ref a0), (1, .int a1), (2, .int a2), (3, .int a3)] [] h 0 0 (ev_fin G M_R_join P) := by
  refine e_iload_n fR_join_133 rfl 3 rfl ?_
  refine e_aload_n fR_join_134 rfl 0 rfl ?_
  obtain ⟨v1, gv1, V⟩ := V
  refine e_get fR_join_135 kR_34 gv1 ?_
  refine e_iload_n fR_join_138 rfl 2 rfl ?_
  obtain ⟨v2, g0, gv2, V⟩ := V
  refine e_iald fR_join_139 g0 gv2 ?_
  refine e_icmp_ge (tgt := 160) fR_join_140 (by decide) (fun z => ?_) (fun z => ?_)
  · have V := V.1 z
    refine e_aload_n fR_join_160 rfl 0 rfl ?_
    obtain ⟨v3, gv3, V⟩ := V
    refine e_get fR_join_161 kR_34 gv3 ?_
    refine e_iload_n fR_join_164 rfl 2 rfl ?_
    refine e_iconst (v := 0) fR_join_165 (by decide) ?_
    obtain ⟨w4, g0, gw4, V⟩ := V
    refine e_iast fR_join_166 g0 gw4 (fun h5 eh5 => ?_)
    have V := V h5 eh5
    refine e_aload_n fR_join_167 rfl 0 rfl ?_
    obtain ⟨v6, gv6, V⟩ := V
    refine e_get fR_join_168 kR_22 gv6 ?_
    refine e_iload_n fR_join_171 rfl 2 rfl ?_
    refine e_bipush (v := 7) fR_join_172 (by decide) ?_
    obtain ⟨w7, g0, gw7, V⟩ := V
    refine e_iast fR_join_174 g0 gw7 (fun h8 eh8 => ?_)
    have V := V h8 eh8
    refine e_aload_n fR_join_175 rfl 0 rfl ?_
    obtain ⟨v9, gv9, V⟩ := V
    refine e_get fR_join_176 kR_31 gv9 ?_
    refine e_iload_n fR_join_179 rfl 2 rfl ?_
    refine e_iload_n fR_join_180 rfl 1 rfl ?_
    obtain ⟨w10, g0, gw10, V⟩ := V
    refine e_iast fR_join_181 g0 gw10 (fun h11 eh11 => ?_)
    have V := V h11 eh11
    refine e_aload_n fR_join_182 rfl 0 rfl ?_
    obtain ⟨v12, gv12, V⟩ := V
    refine e_get fR_join_183 kR_28 gv12 ?_
    refine e_iload_n fR_join_186 rfl 1 rfl ?_
    refine e_dup2 fR_join_187 rfl rfl ?_
    obtain ⟨v13, g0, gv13, V⟩ := V
    refine e_iald fR_join_188 g0 gv13 ?_
    refine e_iconst (v := 1) fR_join_189 (by decide) ?_
    refine e_iadd fR_join_190 ?_
    obtain ⟨w14, g0, gw14, V⟩ := V
    refine e_iast fR_join_191 g0 gw14 (fun h15 eh15 => ?_)
    have V := V h15 eh15
    refine e_aload_n fR_join_192 rfl 0 rfl ?_
    obtain ⟨v16, gv16, V⟩ := V
    refine e_get fR_join_193 kR_28 gv16 ?_
    refine e_iload_n fR_join_196 rfl 2 rfl ?_
    refine e_dup2 fR_join_197 rfl rfl ?_
    obtain ⟨v17, g0, gv17, V⟩ := V
    refine e_iald fR_join_198 g0 gv17 ?_
    refine e_iconst (v := 1) fR_join_199 (by decide) ?_
    refine e_iadd fR_join_200 ?_
    obtain ⟨w18, g0, gw18, V⟩ := V
    refine e_iast fR_join_201 g0 gw18 (fun h19 eh19 => ?_)
    have V := V h19 eh19
    exact e_vret fR_join_202 rfl V
  · have V := V.2 z
    refine e_aload_n fR_join_143 rfl 0 rfl ?_
    refine e_iload_n fR_join_144 rfl 1 rfl ?_
    refine e_aload_n fR_join_145 rfl 0 rfl ?_
    refine e_iload_n fR_join_146 rfl 2 rfl ?_
    refine e_iload_n fR_join_147 rfl 3 rfl ?_
    obtain ⟨v21, gv21, V⟩ := V
    obtain ⟨gc, V⟩ := V
    refine e_callVi (uc' := 0) (us' := 0) (st := [.int a1, .ref a0]) fR_join_148 wR_join_148 rfl rfl gc (sp_R_lineAt gv21) (Nat.le_of_ble_eq_true rfl) (by decide) (by decide) (fun r23 h22 ga => ?_) (fun E h22 gx => False.elim gx)
    obtain ⟨rfl, ge⟩ := ga
    replace ge := ge.symm
    subst ge
    obtain ⟨gc, V⟩ := V
    obtain ⟨A, X, hm, V, VX⟩ := V
    refine e_callVv (uc' := 0) (us' := 0) (st := []) fR_join_151 wR_join_151 rfl rfl gc hm (Nat.le_of_ble_eq_true rfl) (by decide) (by decide) (fun h24 ga => ?_) (fun E h24 gx => ?_)
    · have V := V _ ga
      obtain ⟨x25, ex25⟩ : ∃ z : Int32, z = a3 + 1 := ⟨_, rfl⟩
      have V := V x25 ex25
      refine e_iinc (v := x25) (k := 3) (ls' := [(3, .int x25), (0, .ref a0), (1, .int a1), (2, .int a2)]) fR_join_154 rfl (by rw [ex25]; rfl) (by decide) rfl ?_
      refine e_goto (tgt := 133) fR_join_157 (by decide) ?_
      exact Ev.loc [1, 2, 3, 0] rfl V
    · exact e_out (by decide) (VX E _ gx)
set_option maxRecDepth 20000 in
theorem vR_join {l : Launch} {G : ev_G} {h : ev_AH} {P : ev_Post} {p0 : Nat} {p1 : Int32} {p2 : Int32} (V : ∃ v2 : Int32, ev_f h p0 4 1 = some (.int v2) ∧ (∃ fs : List Value, h p0 = some (4, fs)) ∧ ∃ J6 : Int32 → Prop, J6 = (fun (j5 : Int32) => ∃ w7 : Value, ev_f h p0 4 0 = some w7 ∧ ∀ h8 : ev_AH, h8 = ev_s h p0 0 (.int j5) → ∃ v9 : Int32, ev_f h8 p0 4 0 = some (.int v9) ∧ ∃ J11 : ev_AH → Prop, J11 = (fun (h10 : ev_AH) => ∃ v12 : Int32, ev_f h10 p0 4 0 = some (.int v12) ∧ ∃ J14 : ev_AH → Prop, J14 = (fun (h13 : ev_AH) => ∃ v15 : Int32, ev_f h13 p0 4 0 = some (.int v15) ∧ ((v15 ≤ 0 → Ev l G M_R_join 133 [(0, .ref p0), (1, .int p1), (2, .int p2), (3, .int 0)] [] h13 0 0 (ev_fin G M_R_join P)) ∧ (¬ v15 ≤ 0 → P (.inl none) h13))) ∧ ((¬ v12 = 0 → J14 h10) ∧ (v12 = 0 → ∃ v16 : Nat, ev_f h10 p0 4 10 = some (.ref v16) ∧ ∃ v17 : Int32, ¬ p1 < 0 ∧ ev_f h10 v16 100 (Int32.toNatClampNeg p1) = some (.int v17) ∧ ∃ v18 : Nat, ev_f h10 p0 4 10 = some (.ref v18) ∧ ∃ v19 : Int32, ¬ p2 < 0 ∧ ev_f h10 v18 100 (Int32.toNatClampNeg p2) = some (.int v19) ∧ (((v17 + v19) ≤ 8 → J14 h10) ∧ (¬ (v17 + v19) ≤ 8 → ∃ w20 : Value, ev_f h10 p0 4 0 = some w20 ∧ ∀ h21 : ev_AH, h21 = ev_s h10 p0 0 (.int 3) → J14 h21))))) ∧ ((¬ v9 = 0 → J11 h8) ∧ (v9 = 0 → ((p1 = p2 → ∃ w22 : Value, ev_f h8 p0 4 0 = some w22 ∧ ∀ h23 : ev_AH, h23 = ev_s h8 p0 0 (.int 2) → J11 h23) ∧ (¬ p1 = p2 → ∃ v24 : Nat, ev_f h8 p0 4 6 = some (.ref v24) ∧ ∃ v25 : Int32, ¬ p1 < 0 ∧ ev_f h8 v24 100 (Int32.toNatClampNeg p1) = some (.int v25) ∧ ((¬ v25 = 0 → ∃ w26 : Value, ev_f h8 p0 4 0 = some w26 ∧ ∀ h27 : ev_AH, h27 = ev_s h8 p0 0 (.int 2) → J11 h27) ∧ (v25 = 0 → ∃ v28 : Nat, ev_f h8 p0 4 6 = some (.ref v28) ∧ ∃ v29 : Int32, ¬ p2 < 0 ∧ ev_f h8 v28 100 (Int32.toNatClampNeg p2) = some (.int v29) ∧ ((¬ v29 = 0 → ∃ w30 : Value, ev_f h8 p0 4 0 = some w30 ∧ ∀ h31 : ev_AH, h31 = ev_s h8 p0 0 (.int 2) → J11 h31) ∧ (v29 = 0 → ∃ v32 : Nat, ev_f h8 p0 4 2 = some (.ref v32) ∧ ∃ v33 : Int32, ¬ p1 < 0 ∧ ev_f h8 v32 100 (Int32.toNatClampNeg p1) = some (.int v33) ∧ ∃ v34 : Nat, ev_f h8 p0 4 2 = some (.ref v34) ∧ ∃ v35 : Int32, ¬ p2 < 0 ∧ ev_f h8 v34 100 (Int32.toNatClampNeg p2) = some (.int v35) ∧ ((¬ v33 = v35 → ∃ w36 : Value, ev_f h8 p0 4 0 = some w36 ∧ ∀ h37 : ev_AH, h37 = ev_s h8 p0 0 (.int 2) → J11 h37) ∧ (v33 = v35 → ∃ v38 : Nat, ev_f h8 p0 4 7 = some (.ref v38) ∧ ∃ v39 : Int32, ¬ p1 < 0 ∧ ev_f h8 v38 100 (Int32.toNatClampNeg p1) = some (.int v39) ∧ ((¬ v39 = 0 → ∃ w40 : Value, ev_f h8 p0 4 0 = some w40 ∧ ∀ h41 : ev_AH, h41 = ev_s h8 p0 0 (.int 2) → J11 h41) ∧ (v39 = 0 → ∃ v42 : Nat, ev_f h8 p0 4 7 = some (.ref v42) ∧ ∃ v43 : Int32, ¬ p2 < 0 ∧ ev_f h8 v42 100 (Int32.toNatClampNeg p2) = some (.int v43) ∧ ((v43 = 0 → J11 h8) ∧ (¬ v43 = 0 → ∃ w44 : Value, ev_f h8 p0 4 0 = some w44 ∧ ∀ h45 : ev_AH, h45 = ev_s h8 p0 0 (.int 2) → J11 h45))))))))))))))) ∧ (((ev_b (0 ≤ p1 ∧ p1 ≤ v2 - 1)) = 0 → J6 1) ∧ (¬ (ev_b (0 ≤ p1 ∧ p1 ≤ v2 - 1)) = 0 → ∃ v47 : Int32, ev_f h p0 4 1 = some (.int v47) ∧ (∃ fs : List Value, h p0 = some (4, fs)) ∧ ((¬ (ev_b (0 ≤ p2 ∧ p2 ≤ v47 - 1)) = 0 → J6 0) ∧ ((ev_b (0 ≤ p2 ∧ p2 ≤ v47 - 1)) = 0 → J6 1))))) : Mt l G M_R_join [.ref p0, .int p1, .int p2] h P := by
  refine Mt.of rfl rfl (Nat.le_of_ble_eq_true rfl) ?_
  show Ev l G M_R_join 0 [(0, .ref p0), (1, .int p1), (2, .int p2)] [] h 0 0 (ev_fin G M_R_join P)
  refine e_aload_n fR_join_0 rfl 0 rfl ?_
  refine e_aload_n fR_join_1 rfl 0 rfl ?_
  refine e_iload_n fR_join_2 rfl 1 rfl ?_
  obtain ⟨v2, gv2, V⟩ := V
  obtain ⟨gc, V⟩ := V
  refine e_callVi (uc' := 0) (us' := 0) (st := [.ref p0]) fR_join_3 wR_join_3 rfl rfl gc (sp_R_isOrder gv2) (Nat.le_of_ble_eq_true rfl) (by decide) (by decide) (fun r4 h3 ga => ?_) (fun E h3 gx => False.elim gx)
  obtain ⟨rfl, ge⟩ := ga
  replace ge := ge.symm
  subst ge
  obtain ⟨J6, VJ6, V⟩ := V
  have KJ6 : ∀ (j5 : Int32), J6 j5 → Ev l G M_R_join 22 [(0, .ref p0), (1, .int p1), (2, .int p2)] [.int j5, .ref p0] h 0 0 (ev_fin G M_R_join P) := by
    intro j5 hj
    have V := Eq.mp (congrFun VJ6 j5) hj
    obtain ⟨w7, gw7, V⟩ := V
    refine e_put fR_join_22 pR_71 gw7 rfl rfl (fun h8 eh8 => ?_)
    have V := V h8 eh8
    refine e_aload_n fR_join_25 rfl 0 rfl ?_
    obtain ⟨v9, gv9, V⟩ := V
    refine e_get fR_join_26 kR_71 gv9 ?_
    obtain ⟨J11, VJ11, V⟩ := V
    have KJ11 : ∀ (h10 : ev_AH), J11 h10 → Ev l G M_R_join 93 [(0, .ref p0), (1, .int p1), (2, .int p2)] [] h10 0 0 (ev_fin G M_R_join P) := by
      intro h10 hj
      have V := Eq.mp (congrFun VJ11 h10) hj
      refine e_aload_n fR_join_93 rfl 0 rfl ?_
      obtain ⟨v12, gv12, V⟩ := V
      refine e_get fR_join_94 kR_71 gv12 ?_
      obtain ⟨J14, VJ14, V⟩ := V
      have KJ14 : ∀ (h13 : ev_AH), J14 h13 → Ev l G M_R_join 123 [(0, .ref p0), (1, .int p1), (2, .int p2)] [] h13 0 0 (ev_fin G M_R_join P) := by
        intro h13 hj
        have V := Eq.mp (congrFun VJ14 h13) hj
        refine e_aload_n fR_join_123 rfl 0 rfl ?_
        obtain ⟨v15, gv15, V⟩ := V
        refine e_get fR_join_124 kR_71 gv15 ?_
        refine e_if_le (tgt := 131) fR_join_127 (by decide) (fun z => ?_) (fun z => ?_)
        · have V := V.1 z
          refine e_iconst (v := 0) fR_join_131 (by decide) ?_
          refine e_istore_n (ls' := [(3, .int 0), (0, .ref p0), (1, .int p1), (2, .int p2)]) fR_join_132 rfl (by decide) rfl ?_
          exact Ev.loc [1, 2, 3, 0] rfl V
        · have V := V.2 z
          exact e_vret fR_join_130 rfl V
      refine e_if_ne (tgt := 123) fR_join_97 (by decide) (fun z => ?_) (fun z => ?_)
      · have V := V.1 z
        exact Ev.widen (by decide) (by decide) (Ev.loc [0, 1, 2] rfl (KJ14 _ V))
      · have V := V.2 z
        refine e_aload_n fR_join_100 rfl 0 rfl ?_
        obtain ⟨v16, gv16, V⟩ := V
        refine e_get fR_join_101 kR_34 gv16 ?_
        refine e_iload_n fR_join_104 rfl 1 rfl ?_
        obtain ⟨v17, g0, gv17, V⟩ := V
        refine e_iald fR_join_105 g0 gv17 ?_
        refine e_aload_n fR_join_106 rfl 0 rfl ?_
        obtain ⟨v18, gv18, V⟩ := V
        refine e_get fR_join_107 kR_34 gv18 ?_
        refine e_iload_n fR_join_110 rfl 2 rfl ?_
        obtain ⟨v19, g0, gv19, V⟩ := V
        refine e_iald fR_join_111 g0 gv19 ?_
        refine e_iadd fR_join_112 ?_
        refine e_bipush (v := 8) fR_join_113 (by decide) ?_
        refine e_icmp_le (tgt := 123) fR_join_115 (by decide) (fun z => ?_) (fun z => ?_)
        · have V := V.1 z
          exact Ev.widen (by decide) (by decide) (Ev.loc [0, 1, 2] rfl (KJ14 _ V))
        · have V := V.2 z
          refine e_aload_n fR_join_118 rfl 0 rfl ?_
          refine e_iconst (v := 3) fR_join_119 (by decide) ?_
          obtain ⟨w20, gw20, V⟩ := V
          refine e_put fR_join_120 pR_71 gw20 rfl rfl (fun h21 eh21 => ?_)
          have V := V h21 eh21
          exact Ev.widen (by decide) (by decide) (Ev.loc [0, 1, 2] rfl (KJ14 _ V))
    refine e_if_ne (tgt := 93) fR_join_29 (by decide) (fun z => ?_) (fun z => ?_)
    · have V := V.1 z
      exact Ev.widen (by decide) (by decide) (Ev.loc [0, 1, 2] rfl (KJ11 _ V))
    · have V := V.2 z
      refine e_iload_n fR_join_32 rfl 1 rfl ?_
      refine e_iload_n fR_join_33 rfl 2 rfl ?_
      refine e_icmp_eq (tgt := 88) fR_join_34 (by decide) (fun z => ?_) (fun z => ?_)
      · have V := V.1 z
        refine e_aload_n fR_join_88 rfl 0 rfl ?_
        refine e_iconst (v := 2) fR_join_89 (by decide) ?_
        obtain ⟨w22, gw22, V⟩ := V
        refine e_put fR_join_90 pR_71 gw22 rfl rfl (fun h23 eh23 => ?_)
        have V := V h23 eh23
        exact Ev.widen (by decide) (by decide) (Ev.loc [0, 1, 2] rfl (KJ11 _ V))
      · have V := V.2 z
        refine e_aload_n fR_join_37 rfl 0 rfl ?_
        obtain ⟨v24, gv24, V⟩ := V
        refine e_get fR_join_38 kR_22 gv24 ?_
        refine e_iload_n fR_join_41 rfl 1 rfl ?_
        obtain ⟨v25, g0, gv25, V⟩ := V
        refine e_iald fR_join_42 g0 gv25 ?_
        refine e_if_ne (tgt := 88) fR_join_43 (by decide) (fun z => ?_) (fun z => ?_)
        · have V := V.1 z
          refine e_aload_n fR_join_88 rfl 0 rfl ?_
          refine e_iconst (v := 2) fR_join_89 (by decide) ?_
          obtain ⟨w26, gw26, V⟩ := V
          refine e_put fR_join_90 pR_71 gw26 rfl rfl (fun h27 eh27 => ?_)
          have V := V h27 eh27
          exact Ev.widen (by decide) (by decide) (Ev.loc [0, 1, 2] rfl (KJ11 _ V))
        · have V := V.2 z
          refine e_aload_n fR_join_46 rfl 0 rfl ?_
          obtain ⟨v28, gv28, V⟩ := V
          refine e_get fR_join_47 kR_22 gv28 ?_
          refine e_iload_n fR_join_50 rfl 2 rfl ?_
          obtain ⟨v29, g0, gv29, V⟩ := V
          refine e_iald fR_join_51 g0 gv29 ?_
          refine e_if_ne (tgt := 88) fR_join_52 (by decide) (fun z => ?_) (fun z => ?_)
          · have V := V.1 z
            refine e_aload_n fR_join_88 rfl 0 rfl ?_
            refine e_iconst (v := 2) fR_join_89 (by decide) ?_
            obtain ⟨w30, gw30, V⟩ := V
            refine e_put fR_join_90 pR_71 gw30 rfl rfl (fun h31 eh31 => ?_)
            have V := V h31 eh31
            exact Ev.widen (by decide) (by decide) (Ev.loc [0, 1, 2] rfl (KJ11 _ V))
          · have V := V.2 z
            refine e_aload_n fR_join_55 rfl 0 rfl ?_
            obtain ⟨v32, gv32, V⟩ := V
            refine e_get fR_join_56 kR_7 gv32 ?_
            refine e_iload_n fR_join_59 rfl 1 rfl ?_
            obtain ⟨v33, g0, gv33, V⟩ := V
            refine e_iald fR_join_60 g0 gv33 ?_
            refine e_aload_n fR_join_61 rfl 0 rfl ?_
            obtain ⟨v34, gv34, V⟩ := V
            refine e_get fR_join_62 kR_7 gv34 ?_
            refine e_iload_n fR_join_65 rfl 2 rfl ?_
            obtain ⟨v35, g0, gv35, V⟩ := V
            refine e_iald fR_join_66 g0 gv35 ?_
            refine e_icmp_ne (tgt := 88) fR_join_67 (by decide) (fun z => ?_) (fun z => ?_)
            · have V := V.1 z
              refine e_aload_n fR_join_88 rfl 0 rfl ?_
              refine e_iconst (v := 2) fR_join_89 (by decide) ?_
              obtain ⟨w36, gw36, V⟩ := V
              refine e_put fR_join_90 pR_71 gw36 rfl rfl (fun h37 eh37 => ?_)
              have V := V h37 eh37
              exact Ev.widen (by decide) (by decide) (Ev.loc [0, 1, 2] rfl (KJ11 _ V))
            · have V := V.2 z
              refine e_aload_n fR_join_70 rfl 0 rfl ?_
              obtain ⟨v38, gv38, V⟩ := V
              refine e_get fR_join_71 kR_25 gv38 ?_
              refine e_iload_n fR_join_74 rfl 1 rfl ?_
              obtain ⟨v39, g0, gv39, V⟩ := V
              refine e_iald fR_join_75 g0 gv39 ?_
              refine e_if_ne (tgt := 88) fR_join_76 (by decide) (fun z => ?_) (fun z => ?_)
              · have V := V.1 z
                refine e_aload_n fR_join_88 rfl 0 rfl ?_
                refine e_iconst (v := 2) fR_join_89 (by decide) ?_
                obtain ⟨w40, gw40, V⟩ := V
                refine e_put fR_join_90 pR_71 gw40 rfl rfl (fun h41 eh41 => ?_)
                have V := V h41 eh41
                exact Ev.widen (by decide) (by decide) (Ev.loc [0, 1, 2] rfl (KJ11 _ V))
              · have V := V.2 z
                refine e_aload_n fR_join_79 rfl 0 rfl ?_
                obtain ⟨v42, gv42, V⟩ := V
                refine e_get fR_join_80 kR_25 gv42 ?_
                refine e_iload_n fR_join_83 rfl 2 rfl ?_
                obtain ⟨v43, g0, gv43, V⟩ := V
                refine e_iald fR_join_84 g0 gv43 ?_
                refine e_if_eq (tgt := 93) fR_join_85 (by decide) (fun z => ?_) (fun z => ?_)
                · have V := V.1 z
                  exact Ev.widen (by decide) (by decide) (Ev.loc [0, 1, 2] rfl (KJ11 _ V))
                · have V := V.2 z
                  refine e_aload_n fR_join_88 rfl 0 rfl ?_
                  refine e_iconst (v := 2) fR_join_89 (by decide) ?_
                  obtain ⟨w44, gw44, V⟩ := V
                  refine e_put fR_join_90 pR_71 gw44 rfl rfl (fun h45 eh45 => ?_)
                  have V := V h45 eh45
                  exact Ev.widen (by decide) (by decide) (Ev.loc [0, 1, 2] rfl (KJ11 _ V))
  refine e_if_eq (tgt := 17) fR_join_6 (by decide) (fun z => ?_) (fun z => ?_)
  · have V := V.1 z
    refine e_iconst (v := 1) fR_join_17 (by decide) ?_
    refine e_goto (tgt := 22) fR_join_18 (by decide) ?_
    exact Ev.widen (by decide) (by decide) (Ev.loc [0, 1, 2] rfl (KJ6 _ V))
  · have V := V.2 z
    refine e_aload_n fR_join_9 rfl 0 rfl ?_
    refine e_iload_n fR_join_10 rfl 2 rfl ?_
    obtain ⟨v47, gv47, V⟩ := V
    obtain ⟨gc, V⟩ := V
    refine e_callVi (uc' := 0) (us' := 0) (st := [.ref p0]) fR_join_11 wR_join_11 rfl rfl gc (sp_R_isOrder gv47) (Nat.le_of_ble_eq_true rfl) (by decide) (by decide) (fun r49 h48 ga => ?_) (fun E h48 gx => False.elim gx)
    obtain ⟨rfl, ge⟩ := ga
    replace ge := ge.symm
    subst ge
    refine e_if_ne (tgt := 21) fR_join_14 (by decide) (fun z => ?_) (fun z => ?_)
    · have V := V.1 z
      refine e_iconst (v := 0) fR_join_21 (by decide) ?_
      exact Ev.widen (by decide) (by decide) (Ev.loc [0, 1, 2] rfl (KJ6 _ V))
    · have V := V.2 z
      refine e_iconst (v := 1) fR_join_17 (by decide) ?_
      refine e_goto (tgt := 22) fR_join_18 (by decide) ?_
      exact Ev.widen (by decide) (by decide) (Ev.loc [0, 1, 2] rfl (KJ6 _ V))
set_option maxRecDepth 20000 in
theorem vR_bits_4 {l : Launch} {G : ev_G} {h : ev_AH} {P : ev_Post} {a0 : Int32} {a1 : Int32} {a2 : Int32} (V : ((8 ≤ a2 → P (.inl (some (.int a1))) h) ∧ (¬ 8 ≤ a2 → ∀ x1 : Int32, x1 = a1 + ((a0 >>> (a2 &&& 31)) &&& 1) → ∀ x2 : Int32, x2 = a2 + 1 → Ev l G M_R_bits 4 [(0, .int a0), (1, .int x1), (2, .int x2)] [] h 0 0 (ev_fin G M_R_bits P)))) : Ev l G M_R_bits 4 [(0, .int a0), (1, .int a1), (2, .int a2)] [] h 0 0 (ev_fin G M_R_bits P) := by
  refine e_iload_n fR_bits_4 rfl 2 rfl ?_
  refine e_bipush (v := 8) fR_bits_5 (by decide) ?_
  refine e_icmp_ge (tgt := 24) fR_bits_7 (by decide) (fun z => ?_) (fun z => ?_)
  · have V := V.1 z
    refine e_iload_n fR_bits_24 rfl 1 rfl ?_
    exact e_iret fR_bits_25 rfl V
  · have V := V.2 z
    refine e_iload_n fR_bits_10 rfl 1 rfl ?_
    refine e_iload_n fR_bits_11 rfl 0 rfl ?_
    refine e_iload_n fR_bits_12 rfl 2 rfl ?_
    refine e_ishr fR_bits_13 ?_
    refine e_iconst (v := 1) fR_bits_14 (by decide) ?_
    refine e_iand fR_bits_15 ?_
    refine e_iadd fR_bits_16 ?_
    refine e_topi (fun x1 ex1 => ?_)
    have V := V x1 ex1
    refine e_istore_n (ls' := [(1, .int x1), (0, .int a0), (2, .int a2)]) fR_bits_17 rfl (by decide) rfl ?_
    obtain ⟨x2, ex2⟩ : ∃ z : Int32, z = a2 + 1 := ⟨_, rfl⟩
    have V := V x2 ex2
    refine e_iinc (v := x2) (k := 2) (ls' := [(2, .int x2), (1, .int x1), (0, .int a0)]) fR_bits_18 rfl (by rw [ex2]; rfl) (by decide) rfl ?_
    refine e_goto (tgt := 4) fR_bits_21 (by decide) ?_
    exact Ev.loc [2, 1, 0] rfl V
set_option maxRecDepth 20000 in
theorem vR_bits {l : Launch} {G : ev_G} {h : ev_AH} {P : ev_Post} {p0 : Int32} (V : Ev l G M_R_bits 4 [(0, .int p0), (1, .int 0), (2, .int 0)] [] h 0 0 (ev_fin G M_R_bits P)) : Mt l G M_R_bits [.int p0] h P := by
  refine Mt.of rfl rfl (Nat.le_of_ble_eq_true rfl) ?_
  show Ev l G M_R_bits 0 [(0, .int p0)] [] h 0 0 (ev_fin G M_R_bits P)
  refine e_iconst (v := 0) fR_bits_0 (by decide) ?_
  refine e_istore_n (ls' := [(1, .int 0), (0, .int p0)]) fR_bits_1 rfl (by decide) rfl ?_
  refine e_iconst (v := 0) fR_bits_2 (by decide) ?_
  refine e_istore_n (ls' := [(2, .int 0), (1, .int 0), (0, .int p0)]) fR_bits_3 rfl (by decide) rfl ?_
  exact Ev.loc [2, 1, 0] rfl V
set_option maxRecDepth 20000 in
theorem vR_block {l : Launch} {G : ev_G} {h : ev_AH} {P : ev_Post} {p0 : Nat} {p1 : Int32} {p2 : Int32} {p3 : Int32} (V : ∃ v2 : Int32, ev_f h p0 4 1 = some (.int v2) ∧ (∃ fs : List Value, h p0 = some (4, fs)) ∧ ∃ J6 : Int32 → Prop, J6 = (fun (j5 : Int32) => ∃ w7 : Value, ev_f h p0 4 0 = some w7 ∧ ∀ h8 : ev_AH, h8 = ev_s h p0 0 (.int j5) → ∃ v9 : Int32, ev_f h8 p0 4 0 = some (.int v9) ∧ ∃ J11 : ev_AH → Prop, J11 = (fun (h10 : ev_AH) => ∃ v12 : Int32, ev_f h10 p0 4 0 = some (.int v12) ∧ ((v12 ≤ 0 → ∃ v13 : Nat, ev_f h10 p0 4 7 = some (.ref v13) ∧ ∃ v14 : Int32, ¬ p1 < 0 ∧ ev_f h10 v13 100 (Int32.toNatClampNeg p1) = some (.int v14) ∧ ∃ w15 : Value, ¬ p1 < 0 ∧ ev_f h10 v13 100 (Int32.toNatClampNeg p1) = some w15 ∧ ∀ h16 : ev_AH, h16 = ev_s h10 v13 (Int32.toNatClampNeg p1) (.int (v14 ^^^ (1 <<< (p2 &&& 31)))) → ∃ v17 : Nat, ev_f h16 p0 4 8 = some (.ref v17) ∧ ∃ v18 : Int32, ¬ p1 < 0 ∧ ev_f h16 v17 100 (Int32.toNatClampNeg p1) = some (.int v18) ∧ ∃ w19 : Value, ¬ p1 < 0 ∧ ev_f h16 v17 100 (Int32.toNatClampNeg p1) = some w19 ∧ ∀ h20 : ev_AH, h20 = ev_s h16 v17 (Int32.toNatClampNeg p1) (.int (v18 + 1)) → ∃ v21 : Nat, ev_f h20 p0 4 7 = some (.ref v21) ∧ ∃ v22 : Int32, ¬ p1 < 0 ∧ ev_f h20 v21 100 (Int32.toNatClampNeg p1) = some (.int v22) ∧ ∃ (A : Int32 → ev_AH → Prop) (X : String → ev_AH → Prop), Mt l G M_R_bits [.int v22] h20 (ev_pi A X) ∧ (∀ (r24 : Int32) (h23 : ev_AH), A r24 h23 → P (.inl (some (.int r24))) h23) ∧ (∀ (E : String) (h9 : ev_AH), X E h9 → P (.inr E) h9)) ∧ (¬ v12 ≤ 0 → P (.inl (some (.int 0))) h10))) ∧ ((¬ v9 = 0 → J11 h8) ∧ (v9 = 0 → ∃ v25 : Nat, ev_f h8 p0 4 6 = some (.ref v25) ∧ ∃ v26 : Int32, ¬ p1 < 0 ∧ ev_f h8 v25 100 (Int32.toNatClampNeg p1) = some (.int v26) ∧ ∃ J28 : Int32 → Prop, J28 = (fun (j27 : Int32) => ∃ w29 : Value, ev_f h8 p0 4 0 = some w29 ∧ ∀ h30 : ev_AH, h30 = ev_s h8 p0 0 (.int j27) → J11 h30) ∧ ((4 ≤ v26 → J28 3) ∧ (¬ 4 ≤ v26 → ∃ v31 : Nat, ev_f h8 p0 4 7 = some (.ref v31) ∧ ∃ v32 : Int32, ¬ p1 < 0 ∧ ev_f h8 v31 100 (Int32.toNatClampNeg p1) = some (.int v32) ∧ ∃ J34 : Int32 → Prop, J34 = (fun (j33 : Int32) => ((¬ ((v32 >>> (p2 &&& 31)) &&& 1) = j33 → J28 0) ∧ (((v32 >>> (p2 &&& 31)) &&& 1) = j33 → J28 3))) ∧ ((p3 = 0 → J34 0) ∧ (¬ p3 = 0 → J34 1))))))) ∧ ((¬ (ev_b (0 ≤ p1 ∧ p1 ≤ v2 - 1)) = 0 → ((¬ (ev_b (0 ≤ p2 ∧ p2 ≤ 7)) = 0 → J6 0) ∧ ((ev_b (0 ≤ p2 ∧ p2 ≤ 7)) = 0 → J6 2))) ∧ ((ev_b (0 ≤ p1 ∧ p1 ≤ v2 - 1)) = 0 → J6 1))) : Mt l G M_R_block [.ref p0, .int p1, .int p2, .int p3] h P := by
  refine Mt.of rfl rfl (Nat.le_of_ble_eq_true rfl) ?_
  show Ev l G M_R_block 0 [(0, .ref p0), (1, .int p1), (2, .int p2), (3, .int p3)] [] h 0 0 (ev_fin G M_R_block P)
  refine e_aload_n fR_block_0 rfl 0 rfl ?_
  refine e_aload_n fR_block_1 rfl 0 rfl ?_
  refine e_iload_n fR_block_2 rfl 1 rfl ?_
  obtain ⟨v2, gv2, V⟩ := V
  obtain ⟨gc, V⟩ := V
  refine e_callVi (uc' := 0) (us' := 0) (st := [.ref p0]) fR_block_3 wR_block_3 rfl rfl gc (sp_R_isOrder gv2) (Nat.le_of_ble_eq_true rfl) (by decide) (by decide) (fun r4 h3 ga => ?_) (fun E h3 gx => False.elim gx)
  obtain ⟨rfl, ge⟩ := ga
  replace ge := ge.symm
  subst ge
  obtain ⟨J6, VJ6, V⟩ := V
  have KJ6 : ∀ (j5 : Int32), J6 j5 → Ev l G M_R_block 28 [(0, .ref p0), (1, .int p1), (2, .int p2), (3, .int p3)] [.int j5, .ref p0] h 0 0 (ev_fin G M_R_block P) := by
    intro j5 hj
    have V := Eq.mp (congrFun VJ6 j5) hj
    obtain ⟨w7, gw7, V⟩ := V
    refine e_put fR_block_28 pR_71 gw7 rfl rfl (fun h8 eh8 => ?_)
    have V := V h8 eh8
    refine e_aload_n fR_block_31 rfl 0 rfl ?_
    obtain ⟨v9, gv9, V⟩ := V
    refine e_get fR_block_32 kR_71 gv9 ?_
    obtain ⟨J11, VJ11, V⟩ := V
    have KJ11 : ∀ (h10 : ev_AH), J11 h10 → Ev l G M_R_block 79 [(0, .ref p0), (1, .int p1), (2, .int p2), (3, .int p3)] [] h10 0 0 (ev_fin G M_R_block P) := by
      intro h10 hj
      have V := Eq.mp (congrFun VJ11 h10) hj
      refine e_aload_n fR_block_79 rfl 0 rfl ?_
      obtain ⟨v12, gv12, V⟩ := V
      refine e_get fR_block_80 kR_71 gv12 ?_
      refine e_if_le (tgt := 88) fR_block_83 (by decide) (fun z => ?_) (fun z => ?_)
      · have V := V.1 z
        refine e_aload_n fR_block_88 rfl 0 rfl ?_
        obtain ⟨v13, gv13, V⟩ := V
        refine e_get fR_block_89 kR_25 gv13 ?_
        refine e_iload_n fR_block_92 rfl 1 rfl ?_
        refine e_dup2 fR_block_93 rfl rfl ?_
        obtain ⟨v14, g0, gv14, V⟩ := V
        refine e_iald fR_block_94 g0 gv14 ?_
        refine e_iconst (v := 1) fR_block_95 (by decide) ?_
        refine e_iload_n fR_block_96 rfl 2 rfl ?_
        refine e_ishl fR_block_97 ?_
        refine e_ixor fR_block_98 ?_
        obtain ⟨w15, g0, gw15, V⟩ := V
        refine e_iast fR_block_99 g0 gw15 (fun h16 eh16 => ?_)
        have V := V h16 eh16
        refine e_aload_n fR_block_100 rfl 0 rfl ?_
        obtain ⟨v17, gv17, V⟩ := V
        refine e_get fR_block_101 kR_28 gv17 ?_
        refine e_iload_n fR_block_104 rfl 1 rfl ?_
        refine e_dup2 fR_block_105 rfl rfl ?_
        obtain ⟨v18, g0, gv18, V⟩ := V
        refine e_iald fR_block_106 g0 gv18 ?_
        refine e_iconst (v := 1) fR_block_107 (by decide) ?_
        refine e_iadd fR_block_108 ?_
        obtain ⟨w19, g0, gw19, V⟩ := V
        refine e_iast fR_block_109 g0 gw19 (fun h20 eh20 => ?_)
        have V := V h20 eh20
        refine e_aload_n fR_block_110 rfl 0 rfl ?_
        obtain ⟨v21, gv21, V⟩ := V
        refine e_get fR_block_111 kR_25 gv21 ?_
        refine e_iload_n fR_block_114 rfl 1 rfl ?_
        obtain ⟨v22, g0, gv22, V⟩ := V
        refine e_iald fR_block_115 g0 gv22 ?_
        obtain ⟨A, X, hm, V, VX⟩ := V
        refine e_callSi (uc' := 0) (us' := 0) (st := []) fR_block_116 wR_block_116 rfl rfl hm (Nat.le_of_ble_eq_true rfl) (by decide) (by decide) (fun r24 h23 ga => ?_) (fun E h23 gx => ?_)
        · have V := V _ _ ga
          exact e_iret fR_block_119 rfl V
        · exact e_out (by decide) (VX E _ gx)
      · have V := V.2 z
        refine e_iconst (v := 0) fR_block_86 (by decide) ?_
        exact e_iret fR_block_87 rfl V
    refine e_if_ne (tgt := 79) fR_block_35 (by decide) (fun z => ?_) (fun z => ?_)
    · have V := V.1 z
      exact Ev.widen (by decide) (by decide) (Ev.loc [0, 1, 2, 3] rfl (KJ11 _ V))
    · have V := V.2 z
      refine e_aload_n fR_block_38 rfl 0 rfl ?_
      refine e_aload_n fR_block_39 rfl 0 rfl ?_
      obtain ⟨v25, gv25, V⟩ := V
      refine e_get fR_block_40 kR_22 gv25 ?_
      refine e_iload_n fR_block_43 rfl 1 rfl ?_
      obtain ⟨v26, g0, gv26, V⟩ := V
      refine e_iald fR_block_44 g0 gv26 ?_
      refine e_iconst (v := 4) fR_block_45 (by decide) ?_
      obtain ⟨J28, VJ28, V⟩ := V
      have KJ28 : ∀ (j27 : Int32), J28 j27 → Ev l G M_R_block 76 [(0, .ref p0), (1, .int p1), (2, .int p2), (3, .int p3)] [.int j27, .ref p0] h8 0 0 (ev_fin G M_R_block P) := by
        intro j27 hj
        have V := Eq.mp (congrFun VJ28 j27) hj
        obtain ⟨w29, gw29, V⟩ := V
        refine e_put fR_block_76 pR_71 gw29 rfl rfl (fun h30 eh30 => ?_)
        have V := V h30 eh30
        exact Ev.widen (by decide) (by decide) (Ev.loc [0, 1, 2, 3] rfl (KJ11 _ V))
      refine e_icmp_ge (tgt := 71) fR_block_46 (by decide) (fun z => ?_) (fun z => ?_)
      · have V := V.1 z
        refine e_iconst (v := 3) fR_block_71 (by decide) ?_
        refine e_goto (tgt := 76) fR_block_72 (by decide) ?_
        exact Ev.widen (by decide) (by decide) (Ev.loc [0, 1, 2, 3] rfl (KJ28 _ V))
      · have V := V.2 z
        refine e_aload_n fR_block_49 rfl 0 rfl ?_
        obtain ⟨v31, gv31, V⟩ := V
        refine e_get fR_block_50 kR_25 gv31 ?_
        refine e_iload_n fR_block_53 rfl 1 rfl ?_
        obtain ⟨v32, g0, gv32, V⟩ := V
        refine e_iald fR_block_54 g0 gv32 ?_
        refine e_iload_n fR_block_55 rfl 2 rfl ?_
        refine e_ishr fR_block_56 ?_
        refine e_iconst (v := 1) fR_block_57 (by decide) ?_
        refine e_iand fR_block_58 ?_
        refine e_iload_n fR_block_59 rfl 3 rfl ?_
        obtain ⟨J34, VJ34, V⟩ := V
        have KJ34 : ∀ (j33 : Int32), J34 j33 → Ev l G M_R_block 68 [(0, .ref p0), (1, .int p1), (2, .int p2), (3, .int p3)] [.int j33, .int ((v32 >>> (p2 &&& 31)) &&& 1), .ref p0] h8 0 0 (ev_fin G M_R_block P) := by
          intro j33 hj
          have V := Eq.mp (congrFun VJ34 j33) hj
          refine e_icmp_ne (tgt := 75) fR_block_68 (by decide) (fun z => ?_) (fun z => ?_)
          · have V := V.1 z
            refine e_iconst (v := 0) fR_block_75 (by decide) ?_
            exact Ev.widen (by decide) (by decide) (Ev.loc [0, 1, 2, 3] rfl (KJ28 _ V))
          · have V := V.2 z
            refine e_iconst (v := 3) fR_block_71 (by decide) ?_
            refine e_goto (tgt := 76) fR_block_72 (by decide) ?_
            exact Ev.widen (by decide) (by decide) (Ev.loc [0, 1, 2, 3] rfl (KJ28 _ V))
        refine e_if_eq (tgt := 67) fR_block_60 (by decide) (fun z => ?_) (fun z => ?_)
        · have V := V.1 z
          refine e_iconst (v := 0) fR_block_67 (by decide) ?_
          exact Ev.widen (by decide) (by decide) (Ev.loc [0, 1, 2, 3] rfl (KJ34 _ V))
        · have V := V.2 z
          refine e_iconst (v := 1) fR_block_63 (by decide) ?_
          refine e_goto (tgt := 68) fR_block_64 (by decide) ?_
          exact Ev.widen (by decide) (by decide) (Ev.loc [0, 1, 2, 3] rfl (KJ34 _ V))
  refine e_if_ne (tgt := 13) fR_block_6 (by decide) (fun z => ?_) (fun z => ?_)
  · have V := V.1 z
    refine e_iload_n fR_block_13 rfl 2 rfl ?_
    refine e_iconst (v := 0) fR_block_14 (by decide) ?_
    refine e_bipush (v := 7) fR_block_15 (by decide) ?_
    refine e_callSi (uc' := 0) (us' := 0) (st := [.ref p0]) fR_block_17 wR_block_17 rfl rfl sp_R_in (Nat.le_of_ble_eq_true rfl) (by decide) (by decide) (fun r37 h36 ga => ?_) (fun E h36 gx => False.elim gx)
    obtain ⟨rfl, ge⟩ := ga
    replace ge := ge.symm
    subst ge
    refine e_if_ne (tgt := 27) fR_block_20 (by decide) (fun z => ?_) (fun z => ?_)
    · have V := V.1 z
      refine e_iconst (v := 0) fR_block_27 (by decide) ?_
      exact Ev.widen (by decide) (by decide) (Ev.loc [0, 1, 2, 3] rfl (KJ6 _ V))
    · have V := V.2 z
      refine e_iconst (v := 2) fR_block_23 (by decide) ?_
      refine e_goto (tgt := 28) fR_block_24 (by decide) ?_
      exact Ev.widen (by decide) (by decide) (Ev.loc [0, 1, 2, 3] rfl (KJ6 _ V))
  · have V := V.2 z
    refine e_iconst (v := 1) fR_block_9 (by decide) ?_
    refine e_goto (tgt := 28) fR_block_10 (by decide) ?_
    exact Ev.widen (by decide) (by decide) (Ev.loc [0, 1, 2, 3] rfl (KJ6 _ V))
set_option maxRecDepth 20000 in
theorem vR_backorder {l : Launch} {G : ev_G} {h : ev_AH} {P : ev_Post} {p0 : Nat} {p1 : Int32} (V : ∃ v2 : Int32, ev_f h p0 4 12 = some (.int v2) ∧ (∃ fs : List Value, h p0 = some (4, fs)) ∧ ∃ J6 : Int32 → Prop, J6 = (fun (j5 : Int32) => ∃ w7 : Value, ev_f h p0 4 0 = some w7 ∧ ∀ h8 : ev_AH, h8 = ev_s h p0 0 (.int j5) → ∃ v9 : Int32, ev_f h8 p0 4 0 = some (.int v9) ∧ ∃ J11 : ev_AH → Prop, J11 = (fun (h10 : ev_AH) => ∃ v12 : Int32, ev_f h10 p0 4 0 = some (.int v12) ∧ ∃ J14 : ev_AH → Prop, J14 = (fun (h13 : ev_AH) => ∃ v15 : Int32, ev_f h13 p0 4 0 = some (.int v15) ∧ ((v15 ≤ 0 → ∃ v16 : Nat, ev_f h13 p0 4 13 = some (.ref v16) ∧ ∃ v17 : Int32, ¬ p1 < 0 ∧ ev_f h13 v16 100 (Int32.toNatClampNeg p1) = some (.int v17) ∧ ∃ v18 : Nat, ev_f h13 p0 4 22 = some (.ref v18) ∧ ∃ w19 : Value, ¬ p1 < 0 ∧ ev_f h13 v18 101 (Int32.toNatClampNeg p1) = some w19 ∧ ∀ h20 : ev_AH, h20 = ev_s h13 v18 (Int32.toNatClampNeg p1) (narrow .boolean (.int 1)) → ∃ v21 : Nat, ev_f h20 p0 4 2 = some (.ref v21) ∧ ∃ v22 : Int32, ¬ v17 < 0 ∧ ev_f h20 v21 100 (Int32.toNatClampNeg v17) = some (.int v22) ∧ ∃ v23 : Nat, ev_f h20 p0 4 4 = some (.ref v23) ∧ ∃ v24 : Int32, ¬ v17 < 0 ∧ ev_f h20 v23 100 (Int32.toNatClampNeg v17) = some (.int v24) ∧ ∃ v25 : Nat, ev_f h20 p0 4 5 = some (.ref v25) ∧ ∃ v26 : Int32, ¬ v17 < 0 ∧ ev_f h20 v25 100 (Int32.toNatClampNeg v17) = some (.int v26) ∧ (∃ fs : List Value, h20 p0 = some (4, fs)) ∧ ∃ (A : Int32 → ev_AH → Prop) (X : String → ev_AH → Prop), Mt l G M_R_newOrder [.ref p0, .int v22, .int 0, .int v24, .int v26] h20 (ev_pi A X) ∧ (∀ (r28 : Int32) (h27 : ev_AH), A r28 h27 → ∃ v29 : Nat, ev_f h27 p0 4 14 = some (.ref v29) ∧ ∃ v30 : Int32, ¬ p1 < 0 ∧ ev_f h27 v29 100 (Int32.toNatClampNeg p1) = some (.int v30) ∧ ∃ v32 : Int32, ev_ar h27 p0 21 p1 v32 ∧ ∃ v33 : Int32, ev_ar h27 p0 17 p1 v33 ∧ ∃ v34 : Int32, ev_ar h27 p0 20 p1 v34 ∧ (∃ fs : List Value, h27 p0 = some (4, fs)) ∧ ∃ v37 : Nat, ev_f h27 p0 4 16 = some (.ref v37) ∧ ∃ v38 : Int32, ¬ p1 < 0 ∧ ev_f h27 v37 100 (Int32.toNatClampNeg p1) = some (.int v38) ∧ (∃ fs : List Value, h27 p0 = some (4, fs)) ∧ ∃ (A : Int32 → ev_AH → Prop) (X : String → ev_AH → Prop), Mt l G M_R_newLine [.ref p0, .int r28, .int v30, .int (if ¬ v32 = 0 then v33 - v34 else 0), .int v38] h27 (ev_pi A X) ∧ (∀ (r40 : Int32) (h39 : ev_AH), A r40 h39 → P (.inl (some (.int r40))) h39) ∧ (∀ (E : String) (h9 : ev_AH), X E h9 → P (.inr E) h9)) ∧ (∀ (E : String) (h9 : ev_AH), X E h9 → P (.inr E) h9)) ∧ (¬ v15 ≤ 0 → P (.inl (some (.int 0))) h13))) ∧ ((¬ v12 = 0 → J14 h10) ∧ (v12 = 0 → ∃ v41 : Int32, ev_f h10 p0 4 1 = some (.int v41) ∧ ∃ J43 : Int32 → Prop, J43 = (fun (j42 : Int32) => ∃ w44 : Value, ev_f h10 p0 4 0 = some w44 ∧ ∀ h45 : ev_AH, h45 = ev_s h10 p0 0 (.int j42) → J14 h45) ∧ ((v41 = 20 → J43 3) ∧ (¬ v41 = 20 → ∃ v46 : Int32, ev_f h10 p0 4 12 = some (.int v46) ∧ ((¬ v46 = 60 → J43 0) ∧ (v46 = 60 → J43 3))))))) ∧ ((¬ v9 = 0 → J11 h8) ∧ (v9 = 0 → ∃ v47 : Nat, ev_f h8 p0 4 6 = some (.ref v47) ∧ ∃ v48 : Nat, ev_f h8 p0 4 13 = some (.ref v48) ∧ ∃ v49 : Int32, ¬ p1 < 0 ∧ ev_f h8 v48 100 (Int32.toNatClampNeg p1) = some (.int v49) ∧ ∃ v50 : Int32, ¬ v49 < 0 ∧ ev_f h8 v47 100 (Int32.toNatClampNeg v49) = some (.int v50) ∧ ∃ J52 : Int32 → Prop, J52 = (fun (j51 : Int32) => ∃ w53 : Value, ev_f h8 p0 4 0 = some w53 ∧ ∀ h54 : ev_AH, h54 = ev_s h8 p0 0 (.int j51) → J11 h54) ∧ ((¬ v50 = 4 → J52 2) ∧ (v50 = 4 → ∃ v55 : Nat, ev_f h8 p0 4 21 = some (.ref v55) ∧ ∃ v56 : Int32, ¬ p1 < 0 ∧ ev_f h8 v55 101 (Int32.toNatClampNeg p1) = some (.int v56) ∧ ((v56 = 0 → J52 2) ∧ (¬ v56 = 0 → ∃ v58 : Int32, ev_ar h8 p0 16 p1 v58 ∧ (∃ fs : List Value, h8 p0 = some (4, fs)) ∧ (((ev_b (¬ (v58 &&& 4) = 0)) = 0 → J52 2) ∧ (¬ (ev_b (¬ (v58 &&& 4) = 0)) = 0 → ∃ v62 : Int32, ev_ar h8 p0 21 p1 v62 ∧ ∃ v63 : Int32, ev_ar h8 p0 17 p1 v63 ∧ ∃ v64 : Int32, ev_ar h8 p0 20 p1 v64 ∧ (∃ fs : List Value, h8 p0 = some (4, fs)) ∧ (((if ¬ v62 = 0 then v63 - v64 else 0) = 0 → J52 2) ∧ (¬ (if ¬ v62 = 0 then v63 - v64 else 0) = 0 → ∃ v67 : Nat, ev_f h8 p0 4 22 = some (.ref v67) ∧ ∃ v68 : Int32, ¬ p1 < 0 ∧ ev_f h8 v67 101 (Int32.toNatClampNeg p1) = some (.int v68) ∧ ((v68 = 0 → J52 0) ∧ (¬ v68 = 0 → J52 2))))))))))))) ∧ ((¬ (ev_b (0 ≤ p1 ∧ p1 ≤ v2 - 1)) = 0 → J6 0) ∧ ((ev_b (0 ≤ p1 ∧ p1 ≤ v2 - 1)) = 0 → J6 1))) : Mt l G M_R_backorder [.ref p0, .int p1] h P := by
  refine Mt.of rfl rfl (Nat.le_of_ble_eq_true rfl) ?_
  show Ev l G M_R_backorder 0 [(0, .ref p0), (1, .int p1)] [] h 0 0 (ev_fin G M_R_backorder P)
  refine e_aload_n fR_backorder_0 rfl 0 rfl ?_
  refine e_aload_n fR_backorder_1 rfl 0 rfl ?_
  refine e_iload_n fR_backorder_2 rfl 1 rfl ?_
  obtain ⟨v2, gv2, V⟩ := V
  obtain ⟨gc, V⟩ := V
  refine e_callVi (uc' := 0) (us' := 0) (st := [.ref p0]) fR_backorder_3 wR_backorder_3 rfl rfl gc (sp_R_isLine gv2) (Nat.le_of_ble_eq_true rfl) (by decide) (by decide) (fun r4 h3 ga => ?_) (fun E h3 gx => False.elim gx)
  obtain ⟨rfl, ge⟩ := ga
  replace ge := ge.symm
  subst ge
  obtain ⟨J6, VJ6, V⟩ := V
  have KJ6 : ∀ (j5 : Int32), J6 j5 → Ev l G M_R_backorder 14 [(0, .ref p0), (1, .int p1)] [.int j5, .ref p0] h 0 0 (ev_fin G M_R_backorder P) := by
    intro j5 hj
    have V := Eq.mp (congrFun VJ6 j5) hj
    obtain ⟨w7, gw7, V⟩ := V
    refine e_put fR_backorder_14 pR_71 gw7 rfl rfl (fun h8 eh8 => ?_)
    have V := V h8 eh8
    refine e_aload_n fR_backorder_17 rfl 0 rfl ?_
    obtain ⟨v9, gv9, V⟩ := V
    refine e_get fR_backorder_18 kR_71 gv9 ?_
    obtain ⟨J11, VJ11, V⟩ := V
    have KJ11 : ∀ (h10 : ev_AH), J11 h10 → Ev l G M_R_backorder 83 [(0, .ref p0), (1, .int p1)] [] h10 0 0 (ev_fin G M_R_backorder P) := by
      intro h10 hj
      have V := Eq.mp (congrFun VJ11 h10) hj
      refine e_aload_n fR_backorder_83 rfl 0 rfl ?_
      obtain ⟨v12, gv12, V⟩ := V
      refine e_get fR_backorder_84 kR_71 gv12 ?_
      obtain ⟨J14, VJ14, V⟩ := V
      have KJ14 : ∀ (h13 : ev_AH), J14 h13 → Ev l G M_R_backorder 117 [(0, .ref p0), (1, .int p1)] [] h13 0 0 (ev_fin G M_R_backorder P) := by
        intro h13 hj
        have V := Eq.mp (congrFun VJ14 h13) hj
        refine e_aload_n fR_backorder_117 rfl 0 rfl ?_
        obtain ⟨v15, gv15, V⟩ := V
        refine e_get fR_backorder_118 kR_71 gv15 ?_
        refine e_if_le (tgt := 126) fR_backorder_121 (by decide) (fun z => ?_) (fun z => ?_)
        · have V := V.1 z
          refine e_aload_n fR_backorder_126 rfl 0 rfl ?_
          obtain ⟨v16, gv16, V⟩ := V
          refine e_get fR_backorder_127 kR_40 gv16 ?_
          refine e_iload_n fR_backorder_130 rfl 1 rfl ?_
          obtain ⟨v17, g0, gv17, V⟩ := V
          refine e_iald fR_backorder_131 g0 gv17 ?_
          refine e_istore_n (ls' := [(2, .int v17), (0, .ref p0), (1, .int p1)]) fR_backorder_132 rfl (by decide) rfl ?_
          refine e_aload_n fR_backorder_133 rfl 1 rfl ?_
          obtain ⟨v18, gv18, V⟩ := V
          refine e_get fR_backorder_134 kR_68 gv18 ?_
          refine e_iload_n fR_backorder_137 rfl 2 rfl ?_
          refine e_iconst (v := 1) fR_backorder_138 (by decide) ?_
          obtain ⟨w19, g0, gw19, V⟩ := V
          refine e_zast fR_backorder_139 g0 gw19 (fun h20 eh20 => ?_)
          have V := V h20 eh20
          refine e_aload_n fR_backorder_140 rfl 1 rfl ?_
          refine e_aload_n fR_backorder_141 rfl 1 rfl ?_
          refine e_aload_n fR_backorder_142 rfl 1 rfl ?_
          obtain ⟨v21, gv21, V⟩ := V
          refine e_get fR_backorder_143 kR_7 gv21 ?_
          refine e_iload_n fR_backorder_146 rfl 0 rfl ?_
          obtain ⟨v22, g0, gv22, V⟩ := V
          refine e_iald fR_backorder_147 g0 gv22 ?_
          refine e_iconst (v := 0) fR_backorder_148 (by decide) ?_
          refine e_aload_n fR_backorder_149 rfl 1 rfl ?_
          obtain ⟨v23, gv23, V⟩ := V
          refine e_get fR_backorder_150 kR_16 gv23 ?_
          refine e_iload_n fR_backorder_153 rfl 0 rfl ?_
          obtain ⟨v24, g0, gv24, V⟩ := V
          refine e_iald fR_backorder_154 g0 gv24 ?_
          refine e_aload_n fR_backorder_155 rfl 1 rfl ?_
          obtain ⟨v25, gv25, V⟩ := V
          refine e_get fR_backorder_156 kR_19 gv25 ?_
          refine e_iload_n fR_backorder_159 rfl 0 rfl ?_
          obtain ⟨v26, g0, gv26, V⟩ := V
          refine e_iald fR_backorder_160 g0 gv26 ?_
          obtain ⟨gc, V⟩ := V
          obtain ⟨A, X, hm, V, VX⟩ := V
          refine e_callVi (uc' := 0) (us' := 0) (st := [.ref p0]) fR_backorder_161 wR_backorder_161 rfl rfl gc hm (Nat.le_of_ble_eq_true rfl) (by decide) (by decide) (fun r28 h27 ga => ?_) (fun E h27 gx => ?_)
          · have V := V _ _ ga
            refine e_aload_n fR_backorder_164 rfl 1 rfl ?_
            obtain ⟨v29, gv29, V⟩ := V
            refine e_get fR_backorder_165 kR_43 gv29 ?_
            refine e_iload_n fR_backorder_168 rfl 2 rfl ?_
            obtain ⟨v30, g0, gv30, V⟩ := V
            refine e_iald fR_backorder_169 g0 gv30 ?_
            refine e_aload_n fR_backorder_170 rfl 1 rfl ?_
            refine e_iload_n fR_backorder_171 rfl 2 rfl ?_
            obtain ⟨v32, gv32, V⟩ := V
            obtain ⟨v33, gv33, V⟩ := V
            obtain ⟨v34, gv34, V⟩ := V
            obtain ⟨gc, V⟩ := V
            refine e_callVi (uc' := 0) (us' := 0) (st := [.int v30, .int r28, .ref p0]) fR_backorder_172 wR_backorder_172 rfl rfl gc (sp_R_shortOf gv32 gv33 gv34) (Nat.le_of_ble_eq_true rfl) (by decide) (by decide) (fun r36 h35 ga => ?_) (fun E h35 gx => False.elim gx)
            obtain ⟨rfl, ge⟩ := ga
            replace ge := ge.symm
            subst ge
            refine e_aload_n fR_backorder_175 rfl 1 rfl ?_
            obtain ⟨v37, gv37, V⟩ := V
            refine e_get fR_backorder_176 kR_49 gv37 ?_
            refine e_iload_n fR_backorder_179 rfl 2 rfl ?_
            obtain ⟨v38, g0, gv38, V⟩ := V
            refine e_iald fR_backorder_180 g0 gv38 ?_
            obtain ⟨gc, V⟩ := V
            obtain ⟨A, X, hm, V, VX⟩ := V
            refine e_callVi (uc' := 0) (us' := 0) (st := []) fR_backorder_181 wR_backorder_181 rfl rfl gc hm (Nat.le_of_ble_eq_true rfl) (by decide) (by decide) (fun r40 h39 ga => ?_) (fun E h39 gx => ?_)
            · have V := V _ _ ga
              exact e_iret fR_backorder_184 rfl V
            · exact e_out (by decide) (VX E _ gx)
          · exact e_out (by decide) (VX E _ gx)
        · have V := V.2 z
          refine e_iconst (v := 0) fR_backorder_124 (by decide) ?_
          exact e_iret fR_backorder_125 rfl V
      refine e_if_ne (tgt := 117) fR_backorder_87 (by decide) (fun z => ?_) (fun z => ?_)
      · have V := V.1 z
        exact Ev.widen (by decide) (by decide) (Ev.loc [0, 1] rfl (KJ14 _ V))
      · have V := V.2 z
        refine e_aload_n fR_backorder_90 rfl 0 rfl ?_
        refine e_aload_n fR_backorder_91 rfl 0 rfl ?_
        obtain ⟨v41, gv41, V⟩ := V
        refine e_get fR_backorder_92 kR_75 gv41 ?_
        refine e_bipush (v := 20) fR_backorder_95 (by decide) ?_
        obtain ⟨J43, VJ43, V⟩ := V
        have KJ43 : ∀ (j42 : Int32), J43 j42 → Ev l G M_R_backorder 114 [(0, .ref p0), (1, .int p1)] [.int j42, .ref p0] h10 0 0 (ev_fin G M_R_backorder P) := by
          intro j42 hj
          have V := Eq.mp (congrFun VJ43 j42) hj
          obtain ⟨w44, gw44, V⟩ := V
          refine e_put fR_backorder_114 pR_71 gw44 rfl rfl (fun h45 eh45 => ?_)
          have V := V h45 eh45
          exact Ev.widen (by decide) (by decide) (Ev.loc [0, 1] rfl (KJ14 _ V))
        refine e_icmp_eq (tgt := 109) fR_backorder_97 (by decide) (fun z => ?_) (fun z => ?_)
        · have V := V.1 z
          refine e_iconst (v := 3) fR_backorder_109 (by decide) ?_
          refine e_goto (tgt := 114) fR_backorder_110 (by decide) ?_
          exact Ev.widen (by decide) (by decide) (Ev.loc [0, 1] rfl (KJ43 _ V))
        · have V := V.2 z
          refine e_aload_n fR_backorder_100 rfl 0 rfl ?_
          obtain ⟨v46, gv46, V⟩ := V
          refine e_get fR_backorder_101 kR_82 gv46 ?_
          refine e_bipush (v := 60) fR_backorder_104 (by decide) ?_
          refine e_icmp_ne (tgt := 113) fR_backorder_106 (by decide) (fun z => ?_) (fun z => ?_)
          · have V := V.1 z
            refine e_iconst (v := 0) fR_backorder_113 (by decide) ?_
            exact Ev.widen (by decide) (by decide) (Ev.loc [0, 1] rfl (KJ43 _ V))
          · have V := V.2 z
            refine e_iconst (v := 3) fR_backorder_109 (by decide) ?_
            refine e_goto (tgt := 114) fR_backorder_110 (by decide) ?_
            exact Ev.widen (by decide) (by decide) (Ev.loc [0, 1] rfl (KJ43 _ V))
    refine e_if_ne (tgt := 83) fR_backorder_21 (by decide) (fun z => ?_) (fun z => ?_)
    · have V := V.1 z
      exact Ev.widen (by decide) (by decide) (Ev.loc [0, 1] rfl (KJ11 _ V))
    · have V := V.2 z
      refine e_aload_n fR_backorder_24 rfl 0 rfl ?_
      refine e_aload_n fR_backorder_25 rfl 0 rfl ?_
      obtain ⟨v47, gv47, V⟩ := V
      refine e_get fR_backorder_26 kR_22 gv47 ?_
      refine e_aload_n fR_backorder_29 rfl 0 rfl ?_
      obtain ⟨v48, gv48, V⟩ := V
      refine e_get fR_backorder_30 kR_40 gv48 ?_
      refine e_iload_n fR_backorder_33 rfl 1 rfl ?_
      obtain ⟨v49, g0, gv49, V⟩ := V
      refine e_iald fR_backorder_34 g0 gv49 ?_
      obtain ⟨v50, g0, gv50, V⟩ := V
      refine e_iald fR_backorder_35 g0 gv50 ?_
      refine e_iconst (v := 4) fR_backorder_36 (by decide) ?_
      obtain ⟨J52, VJ52, V⟩ := V
      have KJ52 : ∀ (j51 : Int32), J52 j51 → Ev l G M_R_backorder 80 [(0, .ref p0), (1, .int p1)] [.int j51, .ref p0] h8 0 0 (ev_fin G M_R_backorder P) := by
        intro j51 hj
        have V := Eq.mp (congrFun VJ52 j51) hj
        obtain ⟨w53, gw53, V⟩ := V
        refine e_put fR_backorder_80 pR_71 gw53 rfl rfl (fun h54 eh54 => ?_)
        have V := V h54 eh54
        exact Ev.widen (by decide) (by decide) (Ev.loc [0, 1] rfl (KJ11 _ V))
      refine e_icmp_ne (tgt := 75) fR_backorder_37 (by decide) (fun z => ?_) (fun z => ?_)
      · have V := V.1 z
        refine e_iconst (v := 2) fR_backorder_75 (by decide) ?_
        refine e_goto (tgt := 80) fR_backorder_76 (by decide) ?_
        exact Ev.widen (by decide) (by decide) (Ev.loc [0, 1] rfl (KJ52 _ V))
      · have V := V.2 z
        refine e_aload_n fR_backorder_40 rfl 0 rfl ?_
        obtain ⟨v55, gv55, V⟩ := V
        refine e_get fR_backorder_41 kR_64 gv55 ?_
        refine e_iload_n fR_backorder_44 rfl 1 rfl ?_
        obtain ⟨v56, g0, gv56, V⟩ := V
        refine e_zald fR_backorder_45 g0 gv56 ?_
        refine e_if_eq (tgt := 75) fR_backorder_46 (by decide) (fun z => ?_) (fun z => ?_)
        · have V := V.1 z
          refine e_iconst (v := 2) fR_backorder_75 (by decide) ?_
          refine e_goto (tgt := 80) fR_backorder_76 (by decide) ?_
          exact Ev.widen (by decide) (by decide) (Ev.loc [0, 1] rfl (KJ52 _ V))
        · have V := V.2 z
          refine e_aload_n fR_backorder_49 rfl 0 rfl ?_
          refine e_iload_n fR_backorder_50 rfl 1 rfl ?_
          refine e_iconst (v := 4) fR_backorder_51 (by decide) ?_
          obtain ⟨v58, gv58, V⟩ := V
          obtain ⟨gc, V⟩ := V
          refine e_callVi (uc' := 0) (us' := 0) (st := [.ref p0]) fR_backorder_52 wR_backorder_52 rfl rfl gc (sp_R_has gv58) (Nat.le_of_ble_eq_true rfl) (by decide) (by decide) (fun r60 h59 ga => ?_) (fun E h59 gx => False.elim gx)
          obtain ⟨rfl, ge⟩ := ga
          replace ge := ge.symm
          subst ge
          refine e_if_eq (tgt := 75) fR_backorder_55 (by decide) (fun z => ?_) (fun z => ?_)
          · have V := V.1 z
            refine e_iconst (v := 2) fR_backorder_75 (by decide) ?_
            refine e_goto (tgt := 80) fR_backorder_76 (by decide) ?_
            exact Ev.widen (by decide) (by decide) (Ev.loc [0, 1] rfl (KJ52 _ V))
          · have V := V.2 z
            refine e_aload_n fR_backorder_58 rfl 0 rfl ?_
            refine e_iload_n fR_backorder_59 rfl 1 rfl ?_
            obtain ⟨v62, gv62, V⟩ := V
            obtain ⟨v63, gv63, V⟩ := V
            obtain ⟨v64, gv64, V⟩ := V
            obtain ⟨gc, V⟩ := V
            refine e_callVi (uc' := 0) (us' := 0) (st := [.ref p0]) fR_backorder_60 wR_backorder_60 rfl rfl gc (sp_R_shortOf gv62 gv63 gv64) (Nat.le_of_ble_eq_true rfl) (by decide) (by decide) (fun r66 h65 ga => ?_) (fun E h65 gx => False.elim gx)
            obtain ⟨rfl, ge⟩ := ga
            replace ge := ge.symm
            subst ge
            refine e_if_eq (tgt := 75) fR_backorder_63 (by decide) (fun z => ?_) (fun z => ?_)
            · have V := V.1 z
              refine e_iconst (v := 2) fR_backorder_75 (by decide) ?_
              refine e_goto (tgt := 80) fR_backorder_76 (by decide) ?_
              exact Ev.widen (by decide) (by decide) (Ev.loc [0, 1] rfl (KJ52 _ V))
            · have V := V.2 z
              refine e_aload_n fR_backorder_66 rfl 0 rfl ?_
              obtain ⟨v67, gv67, V⟩ := V
              refine e_get fR_backorder_67 kR_68 gv67 ?_
              refine e_iload_n fR_backorder_70 rfl 1 rfl ?_
              obtain ⟨v68, g0, gv68, V⟩ := V
              refine e_zald fR_backorder_71 g0 gv68 ?_
              refine e_if_eq (tgt := 79) fR_backorder_72 (by decide) (fun z => ?_) (fun z => ?_)
              · have V := V.1 z
                refine e_iconst (v := 0) fR_backorder_79 (by decide) ?_
                exact Ev.widen (by decide) (by decide) (Ev.loc [0, 1] rfl (KJ52 _ V))
              · have V := V.2 z
                refine e_iconst (v := 2) fR_backorder_75 (by decide) ?_
                refine e_goto (tgt := 80) fR_backorder_76 (by decide) ?_
                exact Ev.widen (by decide) (by decide) (Ev.loc [0, 1] rfl (KJ52 _ V))
  refine e_if_ne (tgt := 13) fR_backorder_6 (by decide) (fun z => ?_) (fun z => ?_)
  · have V := V.1 z
    refine e_iconst (v := 0) fR_backorder_13 (by decide) ?_
    exact Ev.widen (by decide) (by decide) (Ev.loc [0, 1] rfl (KJ6 _ V))
  · have V := V.2 z
    refine e_iconst (v := 1) fR_backorder_9 (by decide) ?_
    refine e_goto (tgt := 14) fR_backorder_10 (by decide) ?_
    exact Ev.widen (by decide) (by decide) (Ev.loc [0, 1] rfl (KJ6 _ V))
set_option maxRecDepth 20000 in
theorem vR_ready_15 {l : Launch} {G : ev_G} {h : ev_AH} {P : ev_Post} {a0 : Nat} {a1 : Int32} {a2 : Int32} (V : ∃ v1 : Int32, ev_f h a0 4 1 = some (.int v1) ∧ ((v1 ≤ a2 → ∃ v2 : Int32, ev_f h a0 4 0 = some (.int v2) ∧ ((v2 ≤ 0 → P (.inl (some (.int (-1)))) h) ∧ (¬ v2 ≤ 0 → P (.inl (some (.int 0))) h))) ∧ (¬ v1 ≤ a2 → ∃ v3 : Int32, ev_f h a0 4 0 = some (.int v3) ∧ ((¬ v3 = 0 → ∃ v4 : Int32, ev_f h a0 4 0 = some (.int v4) ∧ ((v4 ≤ 0 → P (.inl (some (.int (-1)))) h) ∧ (¬ v4 ≤ 0 → P (.inl (some (.int 0))) h))) ∧ (v3 = 0 → ∃ v6 : Int32, ev_ar h a0 6 a2 v6 ∧ ∃ v7 : Int32, ev_ar h a0 7 a2 v7 ∧ (∃ fs : List Value, h a0 = some (4, fs)) ∧ ((¬ (ev_b (v6 ≤ 1 ∧ v7 = 0)) = 0 → Ev l G M_R_ready 46 [(0, .ref a0), (1, .int a1), (2, .int a2), (3, .int 0), (4, .int 0)] [] h 0 0 (ev_fin G M_R_ready P)) ∧ ((ev_b (v6 ≤ 1 ∧ v7 = 0)) = 0 → ∀ x10 : Int32, x10 = a2 + 1 → Ev l G M_R_ready 15 [(0, .ref a0), (1, .int a1), (2, .int x10)] [] h 0 0 (ev_fin G M_R_ready P)))))))) : Ev l G M_R_ready 15 [(0, .ref a0), (1, .int a1), (2, .int a2)] [] h 0 0 (ev_fin G M_R_ready P) := by
  refine e_iload_n fR_ready_15 rfl 2 rfl ?_
  refine e_aload_n fR_ready_16 rfl 0 rfl ?_
  obtain ⟨v1, gv1, V⟩ := V
  refine e_get fR_ready_17 kR_75 gv1 ?_
  refine e_icmp_ge (tgt := 101) fR_ready_20 (by decide) (fun z => ?_) (fun z => ?_)
  · have V := V.1 z
    refine e_aload_n fR_ready_101 rfl 0 rfl ?_
    obtain ⟨v2, gv2, V⟩ := V
    refine e_get fR_ready_102 kR_71 gv2 ?_
    refine e_if_le (tgt := 112) fR_ready_105 (by decide) (fun z => ?_) (fun z => ?_)
    · have V := V.1 z
      refine e_iconst (v := -1) fR_ready_112 (by decide) ?_
      exact e_iret fR_ready_113 rfl V
    · have V := V.2 z
      refine e_iconst (v := 0) fR_ready_108 (by decide) ?_
      refine e_goto (tgt := 113) fR_ready_109 (by decide) ?_
      exact e_iret fR_ready_113 rfl V
  · have V := V.2 z
    refine e_aload_n fR_ready_23 rfl 0 rfl ?_
    obtain ⟨v3, gv3, V⟩ := V
    refine e_get fR_ready_24 kR_71 gv3 ?_
    refine e_if_ne (tgt := 101) fR_ready_27 (by decide) (fun z => ?_) (fun z => ?_)
    · have V := V.1 z
      refine e_aload_n fR_ready_101 rfl 0 rfl ?_
      obtain ⟨v4, gv4, V⟩ := V
      refine e_get fR_ready_102 kR_71 gv4 ?_
      refine e_if_le (tgt := 112) fR_ready_105 (by decide) (fun z => ?_) (fun z => ?_)
      · have V := V.1 z
        refine e_iconst (v := -1) fR_ready_112 (by decide) ?_
        exact e_iret fR_ready_113 rfl V
      · have V := V.2 z
        refine e_iconst (v := 0) fR_ready_108 (by decide) ?_
        refine e_goto (tgt := 113) fR_ready_109 (by decide) ?_
        exact e_iret fR_ready_113 rfl V
    · have V := V.2 z
      refine e_aload_n fR_ready_30 rfl 0 rfl ?_
      refine e_iload_n fR_ready_31 rfl 2 rfl ?_
      obtain ⟨v6, gv6, V⟩ := V
      obtain ⟨v7, gv7, V⟩ := V
      obtain ⟨gc, V⟩ := V
      refine e_callVi (uc' := 0) (us' := 0) (st := []) fR_ready_32 wR_ready_32 rfl rfl gc (sp_R_isWaiting gv6 gv7) (Nat.le_of_ble_eq_true rfl) (by decide) (by decide) (fun r9 h8 ga => ?_) (fun E h8 gx => False.elim gx)
      obtain ⟨rfl, ge⟩ := ga
      replace ge := ge.symm
      subst ge
      refine e_if_ne (tgt := 41) fR_ready_35 (by decide) (fun z => ?_) (fun z => ?_)
      · have V := V.1 z
        refine e_iconst (v := 0) fR_ready_41 (by decide) ?_
        refine e_istore_n (ls' := [(3, .int 0), (0, .ref a0), (1, .int a1), (2, .int a2)]) fR_ready_42 rfl (by decide) rfl ?_
        refine e_iconst (v := 0) fR_ready_43 (by decide) ?_
        refine e_istore (ls' := [(4, .int 0), (3, .int 0), (0, .ref a0), (1, .int a1), (2, .int a2)]) fR_ready_44 (by decide) rfl ?_
        exact Ev.loc [2, 3, 4, 1, 0] rfl V
      · have V := V.2 z
        refine e_goto (tgt := 95) fR_ready_38 (by decide) ?_
        obtain ⟨x10, ex10⟩ : ∃ z : Int32, z = a2 + 1 := ⟨_, rfl⟩
        have V := V x10 ex10
        refine e_iinc (v := x10) (k := 2) (ls' := [(2, .int x10), (0, .ref a0), (1, .int a1)]) fR_ready_95 rfl (by rw [ex10]; rfl) (by decide) rfl ?_
        refine e_goto (tgt := 15) fR_ready_98 (by decide) ?_
        exact Ev.loc [1, 2, 0] rfl V
set_option maxRecDepth 20000 in
theorem vR_ready_46 {l : Launch} {G : ev_G} {h : ev_AH} {P : ev_Post} {a0 : Nat} {a1 : Int32} {a2 : Int32} {a3 : Int32} {a4 : Int32} (V : ∃ v1 : Int32, ev_f h a0 4 1 = some (.int v1) ∧ ((v1 ≤ a4 → ((¬ a3 = a1 → ∀ x2 : Int32, x2 = a2 + 1 → Ev l G M_R_ready 15 [(0, .ref a0), (1, .int a1), (2, .int x2)] [] h 0 0 (ev_fin G M_R_ready P)) ∧ (a3 = a1 → P (.inl (some (.int a2))) h))) ∧ (¬ v1 ≤ a4 → ∃ v4 : Int32, ev_ar h a0 6 a4 v4 ∧ ∃ v5 : Int32, ev_ar h a0 7 a4 v5 ∧ (∃ fs : List Value, h a0 = some (4, fs)) ∧ ∃ J9 : Int32 → Prop, J9 = (fun (j8 : Int32) => ∀ x10 : Int32, x10 = a3 + j8 → ∀ x11 : Int32, x11 = a4 + 1 → Ev l G M_R_ready 46 [(0, .ref a0), (1, .int a1), (2, .int a2), (3, .int x10), (4, .int x11)] [] h 0 0 (ev_fin G M_R_ready P)) ∧ (((ev_b (v4 ≤ 1 ∧ v5 = 0)) = 0 → J9 0) ∧ (¬ (ev_b (v4 ≤ 1 ∧ v5 = 0)) = 0 → ∃ v13 : Int32, ev_ar h a0 4 a4 v13 ∧ ∃ v14 : Int32, ev_ar h a0 4 a2 v14 ∧ ∃ v15 : Int32, ev_ar h a0 5 a4 v15 ∧ ∃ v16 : Int32, ev_ar h a0 5 a2 v16 ∧ (∃ fs : List Value, h a0 = some (4, fs)) ∧ (((ev_b (ev_lex v13 v14 v15 v16 a4 a2)) = 0 → J9 0) ∧ (¬ (ev_b (ev_lex v13 v14 v15 v16 a4 a2)) = 0 → J9 1))))))) : Ev l G M_R_ready 46 [(0, .ref a0), (1, .int a1), (2, .int a2), (3, .int a3), (4, .int a4)] [] h 0 0 (ev_fin G M_R_ready P) := by
  refine e_iload fR_ready_46 4 rfl ?_
  refine e_aload_n fR_ready_48 rfl 0 rfl ?_
  obtain ⟨v1, gv1, V⟩ := V
  refine e_get fR_ready_49 kR_75 gv1 ?_
  refine e_icmp_ge (tgt := 88) fR_ready_52 (by decide) (fun z => ?_) (fun z => ?_)
  · have V := V.1 z
    refine e_iload_n fR_ready_88 rfl 3 rfl ?_
    refine e_iload_n fR_ready_89 rfl 1 rfl ?_
    refine e_icmp_ne (tgt := 95) fR_ready_90 (by decide) (fun z => ?_) (fun z => ?_)
    · have V := V.1 z
      obtain ⟨x2, ex2⟩ : ∃ z : Int32, z = a2 + 1 := ⟨_, rfl⟩
      have V := V x2 ex2
      refine e_iinc (v := x2) (k := 2) (ls' := [(2, .int x2), (0, .ref a0), (1, .int a1), (3, .int a3), (4, .int a4)]) fR_ready_95 rfl (by rw [ex2]; rfl) (by decide) rfl ?_
      refine e_goto (tgt := 15) fR_ready_98 (by decide) ?_
      exact Ev.loc [1, 2, 0] rfl V
    · have V := V.2 z
      refine e_iload_n fR_ready_93 rfl 2 rfl ?_
      exact e_iret fR_ready_94 rfl V
  · have V := V.2 z
    refine e_iload_n fR_ready_55 rfl 3 rfl ?_
    refine e_aload_n fR_ready_56 rfl 0 rfl ?_
    refine e_iload fR_ready_57 4 rfl ?_
    obtain ⟨v4, gv4, V⟩ := V
    obtain ⟨v5, gv5, V⟩ := V
    obtain ⟨gc, V⟩ := V
    refine e_callVi (uc' := 0) (us' := 0) (st := [.int a3]) fR_ready_59 wR_ready_59 rfl rfl gc (sp_R_isWaiting gv4 gv5) (Nat.le_of_ble_eq_true rfl) (by decide) (by decide) (fun r7 h6 ga => ?_) (fun E h6 gx => False.elim gx)
    obtain ⟨rfl, ge⟩ := ga
    replace ge := ge.symm
    subst ge
    obtain ⟨J9, VJ9, V⟩ := V
    have KJ9 : ∀ (j8 : Int32), J9 j8 → Ev l G M_R_ready 80 [(0, .ref a0), (1, .int a1), (2, .int a2), (3, .int a3), (4, .int a4)] [.int j8, .int a3] h 0 0 (ev_fin G M_R_ready P) := by
      intro j8 hj
      have V := Eq.mp (congrFun VJ9 j8) hj
      refine e_iadd fR_ready_80 ?_
      refine e_topi (fun x10 ex10 => ?_)
      have V := V x10 ex10
      refine e_istore_n (ls' := [(3, .int x10), (0, .ref a0), (1, .int a1), (2, .int a2), (4, .int a4)]) fR_ready_81 rfl (by decide) rfl ?_
      obtain ⟨x11, ex11⟩ : ∃ z : Int32, z = a4 + 1 := ⟨_, rfl⟩
      have V := V x11 ex11
      refine e_iinc (v := x11) (k := 4) (ls' := [(4, .int x11), (3, .int x10), (0, .ref a0), (1, .int a1), (2, .int a2)]) fR_ready_82 rfl (by rw [ex11]; rfl) (by decide) rfl ?_
      refine e_goto (tgt := 46) fR_ready_85 (by decide) ?_
      exact Ev.loc [2, 3, 4, 1, 0] rfl V
    refine e_if_eq (tgt := 79) fR_ready_62 (by decide) (fun z => ?_) (fun z => ?_)
    · have V := V.1 z
      refine e_iconst (v := 0) fR_ready_79 (by decide) ?_
      exact Ev.widen (by decide) (by decide) (Ev.loc [0, 1, 2, 3, 4] rfl (KJ9 _ V))
    · have V := V.2 z
      refine e_aload_n fR_ready_65 rfl 0 rfl ?_
      refine e_iload fR_ready_66 4 rfl ?_
      refine e_iload_n fR_ready_68 rfl 2 rfl ?_
      obtain ⟨v13, gv13, V⟩ := V
      obtain ⟨v14, gv14, V⟩ := V
      obtain ⟨v15, gv15, V⟩ := V
      obtain ⟨v16, gv16, V⟩ := V
      obtain ⟨gc, V⟩ := V
      refine e_callVi (uc' := 0) (us' := 0) (st := [.int a3]) fR_ready_69 wR_ready_69 rfl rfl gc (sp_R_isBefore gv13 gv14 gv15 gv16) (Nat.le_of_ble_eq_true rfl) (by decide) (by decide) (fun r18 h17 ga => ?_) (fun E h17 gx => False.elim gx)
      obtain ⟨rfl, ge⟩ := ga
      replace ge := ge.symm
      subst ge
      refine e_if_eq (tgt := 79) fR_ready_72 (by decide) (fun z => ?_) (fun z => ?_)
      · have V := V.1 z
        refine e_iconst (v := 0) fR_ready_79 (by decide) ?_
        exact Ev.widen (by decide) (by decide) (Ev.loc [0, 1, 2, 3, 4] rfl (KJ9 _ V))
      · have V := V.2 z
        refine e_iconst (v := 1) fR_ready_75 (by decide) ?_
        refine e_goto (tgt := 80) fR_ready_76 (by decide) ?_
        exact Ev.widen (by decide) (by decide) (Ev.loc [0, 1, 2, 3, 4] rfl (KJ9 _ V))
set_option maxRecDepth 20000 in
theorem vR_ready {l : Launch} {G : ev_G} {h : ev_AH} {P : ev_Post} {p0 : Nat} {p1 : Int32} (V : ∃ J2 : Int32 → Prop, J2 = (fun (j1 : Int32) => ∃ w3 : Value, ev_f h p0 4 0 = some w3 ∧ ∀ h4 : ev_AH, h4 = ev_s h p0 0 (.int j1) → Ev l G M_R_ready 15 [(0, .ref p0), (1, .int p1), (2, .int 0)] [] h4 0 0 (ev_fin G M_R_ready P)) ∧ ((0 ≤ p1 → J2 0) ∧ (¬ 0 ≤ p1 → J2 1))) : Mt l G M_R_ready [.ref p0, .int p1] h P := by
  refine Mt.of rfl rfl (Nat.le_of_ble_eq_true rfl) ?_
  show Ev l G M_R_ready 0 [(0, .ref p0), (1, .int p1)] [] h 0 0 (ev_fin G M_R_ready P)
  refine e_aload_n fR_ready_0 rfl 0 rfl ?_
  refine e_iload_n fR_ready_1 rfl 1 rfl ?_
  obtain ⟨J2, VJ2, V⟩ := V
  have KJ2 : ∀ (j1 : Int32), J2 j1 → Ev l G M_R_ready 10 [(0, .ref p0), (1, .int p1)] [.int j1, .ref p0] h 0 0 (ev_fin G M_R_ready P) := by
    intro j1 hj
    have V := Eq.mp (congrFun VJ2 j1) hj
    obtain ⟨w3, gw3, V⟩ := V
    refine e_put fR_ready_10 pR_71 gw3 rfl rfl (fun h4 eh4 => ?_)
    have V := V h4 eh4
    refine e_iconst (v := 0) fR_ready_13 (by decide) ?_
    refine e_istore_n (ls' := [(2, .int 0), (0, .ref p0), (1, .int p1)]) fR_ready_14 rfl (by decide) rfl ?_
    exact Ev.loc [1, 2, 0] rfl V
  refine e_if_ge (tgt := 9) fR_ready_2 (by decide) (fun z => ?_) (fun z => ?_)
  · have V := V.1 z
    refine e_iconst (v := 0) fR_ready_9 (by decide) ?_
    exact Ev.widen (by decide) (by decide) (Ev.loc [0, 1] rfl (KJ2 _ V))
  · have V := V.2 z
    refine e_iconst (v := 1) fR_ready_5 (by decide) ?_
    refine e_goto (tgt := 10) fR_ready_6 (by decide) ?_
    exact Ev.widen (by decide) (by decide) (Ev.loc [0, 1] rfl (KJ2 _ V))
set_option maxRecDepth 20000 in
theorem vR_told_155 {l : Launch} {G : ev_G} {h : ev_AH} {P : ev_Post} {a0 : Nat} {a1 : Int32} {a2 : Int32} {a3 : Int32} {a4 : Int32} (V : ∃ v1 : Nat, ev_f h a0 4 10 = some (.ref v1) ∧ ∃ v2 : Int32, ¬ a1 < 0 ∧ ev_f h v1 100 (Int32.toNatClampNeg a1) = some (.int v2) ∧ ((v2 ≤ a4 → P (.inl (some (.int a3))) h) ∧ (¬ v2 ≤ a4 → ∃ v3 : Nat, ev_f h a0 4 6 = some (.ref v3) ∧ ∃ v4 : Int32, ¬ a1 < 0 ∧ ev_f h v3 100 (Int32.toNatClampNeg a1) = some (.int v4) ∧ ((v4 = 4 → ∃ v6 : Int32, ev_ar h a0 11 (8 * a1 + a4) v6 ∧ (∃ fs : List Value, h a0 = some (4, fs)) ∧ ∃ v10 : Int32, ev_ar h a0 21 v6 v10 ∧ ∃ v11 : Int32, ev_ar h a0 17 v6 v11 ∧ ∃ v12 : Int32, ev_ar h a0 20 v6 v12 ∧ (∃ fs : List Value, h a0 = some (4, fs)) ∧ ∀ x15 : Int32, x15 = a3 + (if ¬ v10 = 0 then v11 - v12 else 0) → ∀ x16 : Int32, x16 = a4 + 1 → Ev l G M_R_told 155 [(0, .ref a0), (1, .int a1), (2, .int a2), (3, .int x15), (4, .int x16)] [] h 0 0 (ev_fin G M_R_told P)) ∧ (¬ v4 = 4 → ∃ v17 : Nat, ev_f h a0 4 6 = some (.ref v17) ∧ ∃ v18 : Int32, ¬ a1 < 0 ∧ ev_f h v17 100 (Int32.toNatClampNeg a1) = some (.int v18) ∧ ((¬ v18 = 5 → P (.inl (some (.int a3))) h) ∧ (v18 = 5 → ∃ v20 : Int32, ev_ar h a0 11 (8 * a1 + a4) v20 ∧ (∃ fs : List Value, h a0 = some (4, fs)) ∧ ∃ v24 : Int32, ev_ar h a0 21 v20 v24 ∧ ∃ v25 : Int32, ev_ar h a0 17 v20 v25 ∧ ∃ v26 : Int32, ev_ar h a0 20 v20 v26 ∧ (∃ fs : List Value, h a0 = some (4, fs)) ∧ ∀ x29 : Int32, x29 = a3 + (if ¬ v24 = 0 then v25 - v26 else 0) → ∀ x30 : Int32, x30 = a4 + 1 → Ev l G M_R_told 155 [(0, .ref a0), (1, .int a1), (2, .int a2), (3, .int x29), (4, .int x30)] [] h 0 0 (ev_fin G M_R_told P)))))))) : Ev l G M_R_told 155 [(0, .ref a0), (1, .int a1), (2, .int a2), (3, .int a3), (4, .int a4)] [] h 0 0 (ev_fin G M_R_told P) := by
  refine e_iload fR_told_155 4 rfl ?_
  refine e_aload_n fR_told_157 rfl 0 rfl ?_
  obtain ⟨v1, gv1, V⟩ := V
  refine e_get fR_told_158 kR_34 gv1 ?_
  refine e_iload_n fR_told_161 rfl 1 rfl ?_
  obtain ⟨v2, g0, gv2, V⟩ := V
  refine e_iald fR_told_162 g0 gv2 ?_
  refine e_icmp_ge (tgt := 206) fR_told_163 (by decide) (fun z => ?_) (fun z => ?_)
  · have V := V.1 z
    refine e_iload_n fR_told_206 rfl 3 rfl ?_
    exact e_iret fR_told_207 rfl V
  · have V := V.2 z
    refine e_aload_n fR_told_166 rfl 0 rfl ?_
    obtain ⟨v3, gv3, V⟩ := V
    refine e_get fR_told_167 kR_22 gv3 ?_
    refine e_iload_n fR_told_170 rfl 1 rfl ?_
    obtain ⟨v4, g0, gv4, V⟩ := V
    refine e_iald fR_told_171 g0 gv4 ?_
    refine e_iconst (v := 4) fR_told_172 (by decide) ?_
    refine e_icmp_eq (tgt := 186) fR_told_173 (by decide) (fun z => ?_) (fun z => ?_)
    · have V := V.1 z
      refine e_iload_n fR_told_186 rfl 3 rfl ?_
      refine e_aload_n fR_told_187 rfl 0 rfl ?_
      refine e_aload_n fR_told_188 rfl 0 rfl ?_
      refine e_iload_n fR_told_189 rfl 1 rfl ?_
      refine e_iload fR_told_190 4 rfl ?_
      obtain ⟨v6, gv6, V⟩ := V
      obtain ⟨gc, V⟩ := V
      refine e_callVi (uc' := 0) (us' := 0) (st := [.ref a0, .int a3]) fR_told_192 wR_told_192 rfl rfl gc (sp_R_lineAt gv6) (Nat.le_of_ble_eq_true rfl) (by decide) (by decide) (fun r8 h7 ga => ?_) (fun E h7 gx => False.elim gx)
      obtain ⟨rfl, ge⟩ := ga
      replace ge := ge.symm
      subst ge
      obtain ⟨v10, gv10, V⟩ := V
      obtain ⟨v11, gv11, V⟩ := V
      obtain ⟨v12, gv12, V⟩ := V
      obtain ⟨gc, V⟩ := V
      refine e_callVi (uc' := 0) (us' := 0) (st := [.int a3]) fR_told_195 wR_told_195 rfl rfl gc (sp_R_shortOf gv10 gv11 gv12) (Nat.le_of_ble_eq_true rfl) (by decide) (by decide) (fun r14 h13 ga => ?_) (fun E h13 gx => False.elim gx)
      obtain ⟨rfl, ge⟩ := ga
      replace ge := ge.symm
      subst ge
      refine e_iadd fR_told_198 ?_
      refine e_topi (fun x15 ex15 => ?_)
      have V := V x15 ex15
      refine e_istore_n (ls' := [(3, .int x15), (0, .ref a0), (1, .int a1), (2, .int a2), (4, .int a4)]) fR_told_199 rfl (by decide) rfl ?_
      obtain ⟨x16, ex16⟩ : ∃ z : Int32, z = a4 + 1 := ⟨_, rfl⟩
      have V := V x16 ex16
      refine e_iinc (v := x16) (k := 4) (ls' := [(4, .int x16), (3, .int x15), (0, .ref a0), (1, .int a1), (2, .int a2)]) fR_told_200 rfl (by rw [ex16]; rfl) (by decide) rfl ?_
      refine e_goto (tgt := 155) fR_told_203 (by decide) ?_
      exact Ev.loc [2, 3, 4, 1, 0] rfl V
    · have V := V.2 z
      refine e_aload_n fR_told_176 rfl 0 rfl ?_
      obtain ⟨v17, gv17, V⟩ := V
      refine e_get fR_told_177 kR_22 gv17 ?_
      refine e_iload_n fR_told_180 rfl 1 rfl ?_
      obtain ⟨v18, g0, gv18, V⟩ := V
      refine e_iald fR_told_181 g0 gv18 ?_
      refine e_iconst (v := 5) fR_told_182 (by decide) ?_
      refine e_icmp_ne (tgt := 206) fR_told_183 (by decide) (fun z => ?_) (fun z => ?_)
      · have V := V.1 z
        refine e_iload_n fR_told_206 rfl 3 rfl ?_
        exact e_iret fR_told_207 rfl V
      · have V := V.2 z
        refine e_iload_n fR_told_186 rfl 3 rfl ?_
        refine e_aload_n fR_told_187 rfl 0 rfl ?_
        refine e_aload_n fR_told_188 rfl 0 rfl ?_
        refine e_iload_n fR_told_189 rfl 1 rfl ?_
        refine e_iload fR_told_190 4 rfl ?_
        obtain ⟨v20, gv20, V⟩ := V
        obtain ⟨gc, V⟩ := V
        refine e_callVi (uc' := 0) (us' := 0) (st := [.ref a0, .int a3]) fR_told_192 wR_told_192 rfl rfl gc (sp_R_lineAt gv20) (Nat.le_of_ble_eq_true rfl) (by decide) (by decide) (fun r22 h21 ga => ?_) (fun E h21 gx => False.elim gx)
        obtain ⟨rfl, ge⟩ := ga
        replace ge := ge.symm
        subst ge
        obtain ⟨v24, gv24, V⟩ := V
        obtain ⟨v25, gv25, V⟩ := V
        obtain ⟨v26, gv26, V⟩ := V
        obtain ⟨gc, V⟩ := V
        refine e_callVi (uc' := 0) (us' := 0) (st := [.int a3]) fR_told_195 wR_told_195 rfl rfl gc (sp_R_shortOf gv24 gv25 gv26) (Nat.le_of_ble_eq_true rfl) (by decide) (by decide) (fun r28 h27 ga => ?_) (fun E h27 gx => False.elim gx)
        obtain ⟨rfl, ge⟩ := ga
        replace ge := ge.symm
        subst ge
        refine e_iadd fR_told_198 ?_
        refine e_topi (fun x29 ex29 => ?_)
        have V := V x29 ex29
        refine e_istore_n (ls' := [(3, .int x29), (0, .ref a0), (1, .int a1), (2, .int a2), (4, .int a4)]) fR_told_199 rfl (by decide) rfl ?_
        obtain ⟨x30, ex30⟩ : ∃ z : Int32, z = a4 + 1 := ⟨_, rfl⟩
        have V := V x30 ex30
        refine e_iinc (v := x30) (k := 4) (ls' := [(4, .int x30), (3, .int x29), (0, .ref a0), (1, .int a1), (2, .int a2)]) fR_told_200 rfl (by rw [ex30]; rfl) (by decide) rfl ?_
        refine e_goto (tgt := 155) fR_told_203 (by decide) ?_
        exact Ev.loc [2, 3, 4, 1, 0] rfl V
set_option maxRecDepth 20000 in
theorem vR_told {l : Launch} {G : ev_G} {h : ev_AH} {P : ev_Post} {p0 : Nat} {p1 : Int32} {p2 : Int32} (V : ∃ v2 : Int32, ev_f h p0 4 1 = some (.int v2) ∧ (∃ fs : List Value, h p0 = some (4, fs)) ∧ ∃ J6 : Int32 → Prop, J6 = (fun (j5 : Int32) => ∃ w7 : Value, ev_f h p0 4 0 = some w7 ∧ ∀ h8 : ev_AH, h8 = ev_s h p0 0 (.int j5) → ∃ v9 : Int32, ev_f h8 p0 4 0 = some (.int v9) ∧ ((v9 ≤ 0 → ((¬ p2 = 0 → ((¬ p2 = 1 → ((¬ p2 = 2 → ((¬ p2 = 3 → ((¬ p2 = 4 → ((¬ p2 = 5 → ((¬ p2 = 6 → ((¬ p2 = 7 → ((¬ p2 = 8 → Ev l G M_R_told 155 [(0, .ref p0), (1, .int p1), (2, .int p2), (3, .int 0), (4, .int 0)] [] h8 0 0 (ev_fin G M_R_told P)) ∧ (p2 = 8 → ∃ v10 : Nat, ev_f h8 p0 4 9 = some (.ref v10) ∧ ∃ v11 : Int32, ¬ p1 < 0 ∧ ev_f h8 v10 100 (Int32.toNatClampNeg p1) = some (.int v11) ∧ P (.inl (some (.int v11))) h8))) ∧ (p2 = 7 → ∃ v12 : Nat, ev_f h8 p0 4 8 = some (.ref v12) ∧ ∃ v13 : Int32, ¬ p1 < 0 ∧ ev_f h8 v12 100 (Int32.toNatClampNeg p1) = some (.int v13) ∧ P (.inl (some (.int v13))) h8))) ∧ (p2 = 6 → ∃ v14 : Nat, ev_f h8 p0 4 10 = some (.ref v14) ∧ ∃ v15 : Int32, ¬ p1 < 0 ∧ ev_f h8 v14 100 (Int32.toNatClampNeg p1) = some (.int v15) ∧ P (.inl (some (.int v15))) h8))) ∧ (p2 = 5 → ∃ v16 : Nat, ev_f h8 p0 4 7 = some (.ref v16) ∧ ∃ v17 : Int32, ¬ p1 < 0 ∧ ev_f h8 v16 100 (Int32.toNatClampNeg p1) = some (.int v17) ∧ P (.inl (some (.int v17))) h8))) ∧ (p2 = 4 → ∃ v18 : Nat, ev_f h8 p0 4 5 = some (.ref v18) ∧ ∃ v19 : Int32, ¬ p1 < 0 ∧ ev_f h8 v18 100 (Int32.toNatClampNeg p1) = some (.int v19) ∧ P (.inl (some (.int v19))) h8))) ∧ (p2 = 3 → ∃ v20 : Nat, ev_f h8 p0 4 4 = some (.ref v20) ∧ ∃ v21 : Int32, ¬ p1 < 0 ∧ ev_f h8 v20 100 (Int32.toNatClampNeg p1) = some (.int v21) ∧ P (.inl (some (.int v21))) h8))) ∧ (p2 = 2 → ∃ v22 : Nat, ev_f h8 p0 4 3 = some (.ref v22) ∧ ∃ v23 : Int32, ¬ p1 < 0 ∧ ev_f h8 v22 100 (Int32.toNatClampNeg p1) = some (.int v23) ∧ P (.inl (some (.int v23))) h8))) ∧ (p2 = 1 → ∃ v24 : Nat, ev_f h8 p0 4 2 = some (.ref v24) ∧ ∃ v25 : Int32, ¬ p1 < 0 ∧ ev_f h8 v24 100 (Int32.toNatClampNeg p1) = some (.int v25) ∧ P (.inl (some (.int v25))) h8))) ∧ (p2 = 0 → ∃ v26 : Nat, ev_f h8 p0 4 6 = some (.ref v26) ∧ ∃ v27 : Int32, ¬ p1 < 0 ∧ ev_f h8 v26 100 (Int32.toNatClampNeg p1) = some (.int v27) ∧ P (.inl (some (.int v27))) h8))) ∧ (¬ v9 ≤ 0 → P (.inl (some (.int 0))) h8))) ∧ ((¬ (ev_b (0 ≤ p1 ∧ p1 ≤ v2 - 1)) = 0 → ((¬ (ev_b (0 ≤ p2 ∧ p2 ≤ 9)) = 0 → J6 0) ∧ ((ev_b (0 ≤ p2 ∧ p2 ≤ 9)) = 0 → J6 2))) ∧ ((ev_b (0 ≤ p1 ∧ p1 ≤ v2 - 1)) = 0 → J6 1))) : Mt l G M_R_told [.ref p0, .int p1, .int p2] h P := by
  refine Mt.of rfl rfl (Nat.le_of_ble_eq_true rfl) ?_
  show Ev l G M_R_told 0 [(0, .ref p0), (1, .int p1), (2, .int p2)] [] h 0 0 (ev_fin G M_R_told P)
  refine e_aload_n fR_told_0 rfl 0 rfl ?_
  refine e_aload_n fR_told_1 rfl 0 rfl ?_
  refine e_iload_n fR_told_2 rfl 1 rfl ?_
  obtain ⟨v2, gv2, V⟩ := V
  obtain ⟨gc, V⟩ := V
  refine e_callVi (uc' := 0) (us' := 0) (st := [.ref p0]) fR_told_3 wR_told_3 rfl rfl gc (sp_R_isOrder gv2) (Nat.le_of_ble_eq_true rfl) (by decide) (by decide) (fun r4 h3 ga => ?_) (fun E h3 gx => False.elim gx)
  obtain ⟨rfl, ge⟩ := ga
  replace ge := ge.symm
  subst ge
  obtain ⟨J6, VJ6, V⟩ := V
  have KJ6 : ∀ (j5 : Int32), J6 j5 → Ev l G M_R_told 28 [(0, .ref p0), (1, .int p1), (2, .int p2)] [.int j5, .ref p0] h 0 0 (ev_fin G M_R_told P) := by
    intro j5 hj
    have V := Eq.mp (congrFun VJ6 j5) hj
    obtain ⟨w7, gw7, V⟩ := V
    refine e_put fR_told_28 pR_71 gw7 rfl rfl (fun h8 eh8 => ?_)
    have V := V h8 eh8
    refine e_aload_n fR_told_31 rfl 0 rfl ?_
    obtain ⟨v9, gv9, V⟩ := V
    refine e_get fR_told_32 kR_71 gv9 ?_
    refine e_if_le (tgt := 40) fR_told_35 (by decide) (fun z => ?_) (fun z => ?_)
    · have V := V.1 z
      refine e_iload_n fR_told_40 rfl 2 rfl ?_
      refine e_if_ne (tgt := 51) fR_told_41 (by decide) (fun z => ?_) (fun z => ?_)
      · have V := V.1 z
        refine e_iload_n fR_told_51 rfl 2 rfl ?_
        refine e_iconst (v := 1) fR_told_52 (by decide) ?_
        refine e_icmp_ne (tgt := 63) fR_told_53 (by decide) (fun z => ?_) (fun z => ?_)
        · have V := V.1 z
          refine e_iload_n fR_told_63 rfl 2 rfl ?_
          refine e_iconst (v := 2) fR_told_64 (by decide) ?_
          refine e_icmp_ne (tgt := 75) fR_told_65 (by decide) (fun z => ?_) (fun z => ?_)
          · have V := V.1 z
            refine e_iload_n fR_told_75 rfl 2 rfl ?_
            refine e_iconst (v := 3) fR_told_76 (by decide) ?_
            refine e_icmp_ne (tgt := 87) fR_told_77 (by decide) (fun z => ?_) (fun z => ?_)
            · have V := V.1 z
              refine e_iload_n fR_told_87 rfl 2 rfl ?_
              refine e_iconst (v := 4) fR_told_88 (by decide) ?_
              refine e_icmp_ne (tgt := 99) fR_told_89 (by decide) (fun z => ?_) (fun z => ?_)
              · have V := V.1 z
                refine e_iload_n fR_told_99 rfl 2 rfl ?_
                refine e_iconst (v := 5) fR_told_100 (by decide) ?_
                refine e_icmp_ne (tgt := 111) fR_told_101 (by decide) (fun z => ?_) (fun z => ?_)
                · have V := V.1 z
                  refine e_iload_n fR_told_111 rfl 2 rfl ?_
                  refine e_bipush (v := 6) fR_told_112 (by decide) ?_
                  refine e_icmp_ne (tgt := 124) fR_told_114 (by decide) (fun z => ?_) (fun z => ?_)
                  · have V := V.1 z
                    refine e_iload_n fR_told_124 rfl 2 rfl ?_
                    refine e_bipush (v := 7) fR_told_125 (by decide) ?_
                    refine e_icmp_ne (tgt := 137) fR_told_127 (by decide) (fun z => ?_) (fun z => ?_)
                    · have V := V.1 z
                      refine e_iload_n fR_told_137 rfl 2 rfl ?_
                      refine e_bipush (v := 8) fR_told_138 (by decide) ?_
                      refine e_icmp_ne (tgt := 150) fR_told_140 (by decide) (fun z => ?_) (fun z => ?_)
                      · have V := V.1 z
                        refine e_iconst (v := 0) fR_told_150 (by decide) ?_
                        refine e_istore_n (ls' := [(3, .int 0), (0, .ref p0), (1, .int p1), (2, .int p2)]) fR_told_151 rfl (by decide) rfl ?_
                        refine e_iconst (v := 0) fR_told_152 (by decide) ?_
                        refine e_istore (ls' := [(4, .int 0), (3, .int 0), (0, .ref p0), (1, .int p1), (2, .int p2)]) fR_told_153 (by decide) rfl ?_
                        exact Ev.loc [2, 3, 4, 1, 0] rfl V
                      · have V := V.2 z
                        refine e_aload_n fR_told_143 rfl 0 rfl ?_
                        obtain ⟨v10, gv10, V⟩ := V
                        refine e_get fR_told_144 kR_31 gv10 ?_
                        refine e_iload_n fR_told_147 rfl 1 rfl ?_
                        obtain ⟨v11, g0, gv11, V⟩ := V
                        refine e_iald fR_told_148 g0 gv11 ?_
                        exact e_iret fR_told_149 rfl V
                    · have V := V.2 z
                      refine e_aload_n fR_told_130 rfl 0 rfl ?_
                      obtain ⟨v12, gv12, V⟩ := V
                      refine e_get fR_told_131 kR_28 gv12 ?_
                      refine e_iload_n fR_told_134 rfl 1 rfl ?_
                      obtain ⟨v13, g0, gv13, V⟩ := V
                      refine e_iald fR_told_135 g0 gv13 ?_
                      exact e_iret fR_told_136 rfl V
                  · have V := V.2 z
                    refine e_aload_n fR_told_117 rfl 0 rfl ?_
                    obtain ⟨v14, gv14, V⟩ := V
                    refine e_get fR_told_118 kR_34 gv14 ?_
                    refine e_iload_n fR_told_121 rfl 1 rfl ?_
                    obtain ⟨v15, g0, gv15, V⟩ := V
                    refine e_iald fR_told_122 g0 gv15 ?_
                    exact e_iret fR_told_123 rfl V
                · have V := V.2 z
                  refine e_aload_n fR_told_104 rfl 0 rfl ?_
                  obtain ⟨v16, gv16, V⟩ := V
                  refine e_get fR_told_105 kR_25 gv16 ?_
                  refine e_iload_n fR_told_108 rfl 1 rfl ?_
                  obtain ⟨v17, g0, gv17, V⟩ := V
                  refine e_iald fR_told_109 g0 gv17 ?_
                  exact e_iret fR_told_110 rfl V
              · have V := V.2 z
                refine e_aload_n fR_told_92 rfl 0 rfl ?_
                obtain ⟨v18, gv18, V⟩ := V
                refine e_get fR_told_93 kR_19 gv18 ?_
                refine e_iload_n fR_told_96 rfl 1 rfl ?_
                obtain ⟨v19, g0, gv19, V⟩ := V
                refine e_iald fR_told_97 g0 gv19 ?_
                exact e_iret fR_told_98 rfl V
            · have V := V.2 z
              refine e_aload_n fR_told_80 rfl 0 rfl ?_
              obtain ⟨v20, gv20, V⟩ := V
              refine e_get fR_told_81 kR_16 gv20 ?_
              refine e_iload_n fR_told_84 rfl 1 rfl ?_
              obtain ⟨v21, g0, gv21, V⟩ := V
              refine e_iald fR_told_85 g0 gv21 ?_
              exact e_iret fR_told_86 rfl V
          · have V := V.2 z
            refine e_aload_n fR_told_68 rfl 0 rfl ?_
            obtain ⟨v22, gv22, V⟩ := V
            refine e_get fR_told_69 kR_13 gv22 ?_
            refine e_iload_n fR_told_72 rfl 1 rfl ?_
            obtain ⟨v23, g0, gv23, V⟩ := V
            refine e_iald fR_told_73 g0 gv23 ?_
            exact e_iret fR_told_74 rfl V
        · have V := V.2 z
          refine e_aload_n fR_told_56 rfl 0 rfl ?_
          obtain ⟨v24, gv24, V⟩ := V
          refine e_get fR_told_57 kR_7 gv24 ?_
          refine e_iload_n fR_told_60 rfl 1 rfl ?_
          obtain ⟨v25, g0, gv25, V⟩ := V
          refine e_iald fR_told_61 g0 gv25 ?_
          exact e_iret fR_told_62 rfl V
      · have V := V.2 z
        refine e_aload_n fR_told_44 rfl 0 rfl ?_
        obtain ⟨v26, gv26, V⟩ := V
        refine e_get fR_told_45 kR_22 gv26 ?_
        refine e_iload_n fR_told_48 rfl 1 rfl ?_
        obtain ⟨v27, g0, gv27, V⟩ := V
        refine e_iald fR_told_49 g0 gv27 ?_
        exact e_iret fR_told_50 rfl V
    · have V := V.2 z
      refine e_iconst (v := 0) fR_told_38 (by decide) ?_
      exact e_iret fR_told_39 rfl V
  refine e_if_ne (tgt := 13) fR_told_6 (by decide) (fun z => ?_) (fun z => ?_)
  · have V := V.1 z
    refine e_iload_n fR_told_13 rfl 2 rfl ?_
    refine e_iconst (v := 0) fR_told_14 (by decide) ?_
    refine e_bipush (v := 9) fR_told_15 (by decide) ?_
    refine e_callSi (uc' := 0) (us' := 0) (st := [.ref p0]) fR_told_17 wR_told_17 rfl rfl sp_R_in (Nat.le_of_ble_eq_true rfl) (by decide) (by decide) (fun r30 h29 ga => ?_) (fun E h29 gx => False.elim gx)
    obtain ⟨rfl, ge⟩ := ga
    replace ge := ge.symm
    subst ge
    refine e_if_ne (tgt := 27) fR_told_20 (by decide) (fun z => ?_) (fun z => ?_)
    · have V := V.1 z
      refine e_iconst (v := 0) fR_told_27 (by decide) ?_
      exact Ev.widen (by decide) (by decide) (Ev.loc [0, 1, 2] rfl (KJ6 _ V))
    · have V := V.2 z
      refine e_iconst (v := 2) fR_told_23 (by decide) ?_
      refine e_goto (tgt := 28) fR_told_24 (by decide) ?_
      exact Ev.widen (by decide) (by decide) (Ev.loc [0, 1, 2] rfl (KJ6 _ V))
  · have V := V.2 z
    refine e_iconst (v := 1) fR_told_9 (by decide) ?_
    refine e_goto (tgt := 28) fR_told_10 (by decide) ?_
    exact Ev.widen (by decide) (by decide) (Ev.loc [0, 1, 2] rfl (KJ6 _ V))
set_option maxRecDepth 20000 in
theorem vR_lineOf {l : Launch} {G : ev_G} {h : ev_AH} {P : ev_Post} {p0 : Nat} {p1 : Int32} {p2 : Int32} (V : ∃ v2 : Int32, ev_f h p0 4 1 = some (.int v2) ∧ (∃ fs : List Value, h p0 = some (4, fs)) ∧ ∃ J6 : Int32 → Prop, J6 = (fun (j5 : Int32) => ∃ w7 : Value, ev_f h p0 4 0 = some w7 ∧ ∀ h8 : ev_AH, h8 = ev_s h p0 0 (.int j5) → ∃ v9 : Int32, ev_f h8 p0 4 0 = some (.int v9) ∧ ((v9 ≤ 0 → ∃ v10 : Nat, ev_f h8 p0 4 10 = some (.ref v10) ∧ ∃ v11 : Int32, ¬ p1 < 0 ∧ ev_f h8 v10 100 (Int32.toNatClampNeg p1) = some (.int v11) ∧ ((v11 ≤ p2 → P (.inl (some (.int (-1)))) h8) ∧ (¬ v11 ≤ p2 → ∃ v13 : Int32, ev_ar h8 p0 11 (8 * p1 + p2) v13 ∧ (∃ fs : List Value, h8 p0 = some (4, fs)) ∧ P (.inl (some (.int v13))) h8))) ∧ (¬ v9 ≤ 0 → P (.inl (some (.int 0))) h8))) ∧ ((¬ (ev_b (0 ≤ p1 ∧ p1 ≤ v2 - 1)) = 0 → ((0 ≤ p2 → J6 0) ∧ (¬ 0 ≤ p2 → J6 2))) ∧ ((ev_b (0 ≤ p1 ∧ p1 ≤ v2 - 1)) = 0 → J6 1))) : Mt l G M_R_lineOf [.ref p0, .int p1, .int p2] h P := by
  refine Mt.of rfl rfl (Nat.le_of_ble_eq_true rfl) ?_
  show Ev l G M_R_lineOf 0 [(0, .ref p0), (1, .int p1), (2, .int p2)] [] h 0 0 (ev_fin G M_R_lineOf P)
  refine e_aload_n fR_lineOf_0 rfl 0 rfl ?_
  refine e_aload_n fR_lineOf_1 rfl 0 rfl ?_
  refine e_iload_n fR_lineOf_2 rfl 1 rfl ?_
  obtain ⟨v2, gv2, V⟩ := V
  obtain ⟨gc, V⟩ := V
  refine e_callVi (uc' := 0) (us' := 0) (st := [.ref p0]) fR_lineOf_3 wR_lineOf_3 rfl rfl gc (sp_R_isOrder gv2) (Nat.le_of_ble_eq_true rfl) (by decide) (by decide) (fun r4 h3 ga => ?_) (fun E h3 gx => False.elim gx)
  obtain ⟨rfl, ge⟩ := ga
  replace ge := ge.symm
  subst ge
  obtain ⟨J6, VJ6, V⟩ := V
  have KJ6 : ∀ (j5 : Int32), J6 j5 → Ev l G M_R_lineOf 22 [(0, .ref p0), (1, .int p1), (2, .int p2)] [.int j5, .ref p0] h 0 0 (ev_fin G M_R_lineOf P) := by
    intro j5 hj
    have V := Eq.mp (congrFun VJ6 j5) hj
    obtain ⟨w7, gw7, V⟩ := V
    refine e_put fR_lineOf_22 pR_71 gw7 rfl rfl (fun h8 eh8 => ?_)
    have V := V h8 eh8
    refine e_aload_n fR_lineOf_25 rfl 0 rfl ?_
    obtain ⟨v9, gv9, V⟩ := V
    refine e_get fR_lineOf_26 kR_71 gv9 ?_
    refine e_if_le (tgt := 34) fR_lineOf_29 (by decide) (fun z => ?_) (fun z => ?_)
    · have V := V.1 z
      refine e_iload_n fR_lineOf_34 rfl 2 rfl ?_
      refine e_aload_n fR_lineOf_35 rfl 0 rfl ?_
      obtain ⟨v10, gv10, V⟩ := V
      refine e_get fR_lineOf_36 kR_34 gv10 ?_
      refine e_iload_n fR_lineOf_39 rfl 1 rfl ?_
      obtain ⟨v11, g0, gv11, V⟩ := V
      refine e_iald fR_lineOf_40 g0 gv11 ?_
      refine e_icmp_ge (tgt := 53) fR_lineOf_41 (by decide) (fun z => ?_) (fun z => ?_)
      · have V := V.1 z
        refine e_iconst (v := -1) fR_lineOf_53 (by decide) ?_
        exact e_iret fR_lineOf_54 rfl V
      · have V := V.2 z
        refine e_aload_n fR_lineOf_44 rfl 0 rfl ?_
        refine e_iload_n fR_lineOf_45 rfl 1 rfl ?_
        refine e_iload_n fR_lineOf_46 rfl 2 rfl ?_
        obtain ⟨v13, gv13, V⟩ := V
        obtain ⟨gc, V⟩ := V
        refine e_callVi (uc' := 0) (us' := 0) (st := []) fR_lineOf_47 wR_lineOf_47 rfl rfl gc (sp_R_lineAt gv13) (Nat.le_of_ble_eq_true rfl) (by decide) (by decide) (fun r15 h14 ga => ?_) (fun E h14 gx => False.elim gx)
        obtain ⟨rfl, ge⟩ := ga
        replace ge := ge.symm
        subst ge
        refine e_goto (tgt := 54) fR_lineOf_50 (by decide) ?_
        exact e_iret fR_lineOf_54 rfl V
    · have V := V.2 z
      refine e_iconst (v := 0) fR_lineOf_32 (by decide) ?_
      exact e_iret fR_lineOf_33 rfl V
  refine e_if_ne (tgt := 13) fR_lineOf_6 (by decide) (fun z => ?_) (fun z => ?_)
  · have V := V.1 z
    refine e_iload_n fR_lineOf_13 rfl 2 rfl ?_
    refine e_if_ge (tgt := 21) fR_lineOf_14 (by decide) (fun z => ?_) (fun z => ?_)
    · have V := V.1 z
      refine e_iconst (v := 0) fR_lineOf_21 (by decide) ?_
      exact Ev.widen (by decide) (by decide) (Ev.loc [0, 1, 2] rfl (KJ6 _ V))
    · have V := V.2 z
      refine e_iconst (v := 2) fR_lineOf_17 (by decide) ?_
      refine e_goto (tgt := 22) fR_lineOf_18 (by decide) ?_
      exact Ev.widen (by decide) (by decide) (Ev.loc [0, 1, 2] rfl (KJ6 _ V))
  · have V := V.2 z
    refine e_iconst (v := 1) fR_lineOf_9 (by decide) ?_
    refine e_goto (tgt := 22) fR_lineOf_10 (by decide) ?_
    exact Ev.widen (by decide) (by decide) (Ev.loc [0, 1, 2] rfl (KJ6 _ V))
set_option maxRecDepth 20000 in
theorem vR_packed {l : Launch} {G : ev_G} {h : ev_AH} {P : ev_Post} {p0 : Nat} {p1 : Int32} (V : ∃ v2 : Int32, ev_f h p0 4 12 = some (.int v2) ∧ (∃ fs : List Value, h p0 = some (4, fs)) ∧ ∃ J6 : Int32 → Prop, J6 = (fun (j5 : Int32) => ∃ w7 : Value, ev_f h p0 4 0 = some w7 ∧ ∀ h8 : ev_AH, h8 = ev_s h p0 0 (.int j5) → ∃ v9 : Int32, ev_f h8 p0 4 0 = some (.int v9) ∧ ((v9 ≤ 0 → ∃ v10 : Nat, ev_f h8 p0 4 14 = some (.ref v10) ∧ ∃ v11 : Int32, ¬ p1 < 0 ∧ ev_f h8 v10 100 (Int32.toNatClampNeg p1) = some (.int v11) ∧ ∃ v12 : Nat, ev_f h8 p0 4 15 = some (.ref v12) ∧ ∃ v13 : Int32, ¬ p1 < 0 ∧ ev_f h8 v12 100 (Int32.toNatClampNeg p1) = some (.int v13) ∧ ∃ v14 : Nat, ev_f h8 p0 4 16 = some (.ref v14) ∧ ∃ v15 : Int32, ¬ p1 < 0 ∧ ev_f h8 v14 100 (Int32.toNatClampNeg p1) = some (.int v15) ∧ ∀ x16 : Int64, x16 = Int32.toInt64 ((v11 ||| ((v13 + 1) <<< (4 &&& 31))) ||| (v15 <<< (9 &&& 31))) → ∃ v17 : Nat, ev_f h8 p0 4 17 = some (.ref v17) ∧ ∃ v18 : Int32, ¬ p1 < 0 ∧ ev_f h8 v17 100 (Int32.toNatClampNeg p1) = some (.int v18) ∧ ∃ v19 : Nat, ev_f h8 p0 4 18 = some (.ref v19) ∧ ∃ v20 : Int32, ¬ p1 < 0 ∧ ev_f h8 v19 100 (Int32.toNatClampNeg p1) = some (.int v20) ∧ ∃ v21 : Nat, ev_f h8 p0 4 19 = some (.ref v21) ∧ ∃ v22 : Int32, ¬ p1 < 0 ∧ ev_f h8 v21 100 (Int32.toNatClampNeg p1) = some (.int v22) ∧ ∃ v23 : Nat, ev_f h8 p0 4 20 = some (.ref v23) ∧ ∃ v24 : Int32, ¬ p1 < 0 ∧ ev_f h8 v23 100 (Int32.toNatClampNeg p1) = some (.int v24) ∧ ∀ x25 : Int64, x25 = (((Int32.toInt64 v18) ||| ((Int32.toInt64 v20) <<< (Int32.toInt64 10 &&& 63))) ||| ((Int32.toInt64 v22) <<< (Int32.toInt64 20 &&& 63))) ||| ((Int32.toInt64 v24) <<< (Int32.toInt64 30 &&& 63)) → ∃ v26 : Nat, ev_f h8 p0 4 21 = some (.ref v26) ∧ ∃ v27 : Int32, ¬ p1 < 0 ∧ ev_f h8 v26 101 (Int32.toNatClampNeg p1) = some (.int v27) ∧ ∃ J29 : Int64 → Prop, J29 = (fun (j28 : Int64) => ∃ v30 : Nat, ev_f h8 p0 4 22 = some (.ref v30) ∧ ∃ v31 : Int32, ¬ p1 < 0 ∧ ev_f h8 v30 101 (Int32.toNatClampNeg p1) = some (.int v31) ∧ ∃ J33 : Int64 → Prop, J33 = (fun (j32 : Int64) => ∃ v34 : Nat, ev_f h8 p0 4 13 = some (.ref v34) ∧ ∃ v35 : Int32, ¬ p1 < 0 ∧ ev_f h8 v34 100 (Int32.toNatClampNeg p1) = some (.int v35) ∧ ∀ x36 : Int64, x36 = (j28 ||| j32) ||| ((Int32.toInt64 v35) <<< (Int32.toInt64 2 &&& 63)) → P (.inl (some (.long ((x16 ||| (x25 <<< (Int32.toInt64 12 &&& 63))) ||| (x36 <<< (Int32.toInt64 52 &&& 63)))))) h8) ∧ ((v31 = 0 → J33 0) ∧ (¬ v31 = 0 → J33 2))) ∧ ((v27 = 0 → J29 0) ∧ (¬ v27 = 0 → J29 1))) ∧ (¬ v9 ≤ 0 → P (.inl (some (.long 0))) h8))) ∧ (((ev_b (0 ≤ p1 ∧ p1 ≤ v2 - 1)) = 0 → J6 1) ∧ (¬ (ev_b (0 ≤ p1 ∧ p1 ≤ v2 - 1)) = 0 → J6 0))) : Mt l G M_R_packed [.ref p0, .int p1] h P := by
  refine Mt.of rfl rfl (Nat.le_of_ble_eq_true rfl) ?_
  show Ev l G M_R_packed 0 [(0, .ref p0), (1, .int p1)] [] h 0 0 (ev_fin G M_R_packed P)
  refine e_aload_n fR_packed_0 rfl 0 rfl ?_
  refine e_aload_n fR_packed_1 rfl 0 rfl ?_
  refine e_iload_n fR_packed_2 rfl 1 rfl ?_
  obtain ⟨v2, gv2, V⟩ := V
  obtain ⟨gc, V⟩ := V
  refine e_callVi (uc' := 0) (us' := 0) (st := [.ref p0]) fR_packed_3 wR_packed_3 rfl rfl gc (sp_R_isLine gv2) (Nat.le_of_ble_eq_true rfl) (by decide) (by decide) (fun r4 h3 ga => ?_) (fun E h3 gx => False.elim gx)
  obtain ⟨rfl, ge⟩ := ga
  replace ge := ge.symm
  subst ge
  obtain ⟨J6, VJ6, V⟩ := V
  have KJ6 : ∀ (j5 : Int32), J6 j5 → Ev l G M_R_packed 14 [(0, .ref p0), (1, .int p1)] [.int j5, .ref p0] h 0 0 (ev_fin G M_R_packed P) := by
    intro j5 hj
    have V := Eq.mp (congrFun VJ6 j5) hj
    obtain ⟨w7, gw7, V⟩ := V
    refine e_put fR_packed_14 pR_71 gw7 rfl rfl (fun h8 eh8 => ?_)
    have V := V h8 eh8
    refine e_aload_n fR_packed_17 rfl 0 rfl ?_
    obtain ⟨v9, gv9, V⟩ := V
    refine e_get fR_packed_18 kR_71 gv9 ?_
    refine e_if_le (tgt := 26) fR_packed_21 (by decide) (fun z => ?_) (fun z => ?_)
    · have V := V.1 z
      refine e_aload_n fR_packed_26 rfl 0 rfl ?_
      obtain ⟨v10, gv10, V⟩ := V
      refine e_get fR_packed_27 kR_43 gv10 ?_
      refine e_iload_n fR_packed_30 rfl 1 rfl ?_
      obtain ⟨v11, g0, gv11, V⟩ := V
      refine e_iald fR_packed_31 g0 gv11 ?_
      refine e_aload_n fR_packed_32 rfl 0 rfl ?_
      obtain ⟨v12, gv12, V⟩ := V
      refine e_get fR_packed_33 kR_46 gv12 ?_
      refine e_iload_n fR_packed_36 rfl 1 rfl ?_
      obtain ⟨v13, g0, gv13, V⟩ := V
      refine e_iald fR_packed_37 g0 gv13 ?_
      refine e_iconst (v := 1) fR_packed_38 (by decide) ?_
      refine e_iadd fR_packed_39 ?_
      refine e_iconst (v := 4) fR_packed_40 (by decide) ?_
      refine e_ishl fR_packed_41 ?_
      refine e_ior fR_packed_42 ?_
      refine e_aload_n fR_packed_43 rfl 0 rfl ?_
      obtain ⟨v14, gv14, V⟩ := V
      refine e_get fR_packed_44 kR_49 gv14 ?_
      refine e_iload_n fR_packed_47 rfl 1 rfl ?_
      obtain ⟨v15, g0, gv15, V⟩ := V
      refine e_iald fR_packed_48 g0 gv15 ?_
      refine e_bipush (v := 9) fR_packed_49 (by decide) ?_
      refine e_ishl fR_packed_51 ?_
      refine e_ior fR_packed_52 ?_
      refine e_i2l fR_packed_53 rfl ?_
      refine e_topl (fun x16 ex16 => ?_)
      have V := V x16 ex16
      refine e_lstore_n (ls' := [(2, .long x16), (0, .ref p0), (1, .int p1)]) fR_packed_54 rfl (by decide) rfl ?_
      refine e_aload_n fR_packed_55 rfl 1 rfl ?_
      obtain ⟨v17, gv17, V⟩ := V
      refine e_get fR_packed_56 kR_52 gv17 ?_
      refine e_iload_n fR_packed_59 rfl 2 rfl ?_
      obtain ⟨v18, g0, gv18, V⟩ := V
      refine e_iald fR_packed_60 g0 gv18 ?_
      refine e_i2l fR_packed_61 rfl ?_
      refine e_aload_n fR_packed_62 rfl 1 rfl ?_
      obtain ⟨v19, gv19, V⟩ := V
      refine e_get fR_packed_63 kR_55 gv19 ?_
      refine e_iload_n fR_packed_66 rfl 2 rfl ?_
      obtain ⟨v20, g0, gv20, V⟩ := V
      refine e_iald fR_packed_67 g0 gv20 ?_
      refine e_i2l fR_packed_68 rfl ?_
      refine e_bipush (v := 10) fR_packed_69 (by decide) ?_
      refine e_lshl fR_packed_71 rfl ?_
      refine e_lor fR_packed_72 ?_
      refine e_aload_n fR_packed_73 rfl 1 rfl ?_
      obtain ⟨v21, gv21, V⟩ := V
      refine e_get fR_packed_74 kR_58 gv21 ?_
      refine e_iload_n fR_packed_77 rfl 2 rfl ?_
      obtain ⟨v22, g0, gv22, V⟩ := V
      refine e_iald fR_packed_78 g0 gv22 ?_
      refine e_i2l fR_packed_79 rfl ?_
      refine e_bipush (v := 20) fR_packed_80 (by decide) ?_
      refine e_lshl fR_packed_82 rfl ?_
      refine e_lor fR_packed_83 ?_
      refine e_aload_n fR_packed_84 rfl 1 rfl ?_
      obtain ⟨v23, gv23, V⟩ := V
      refine e_get fR_packed_85 kR_61 gv23 ?_
      refine e_iload_n fR_packed_88 rfl 2 rfl ?_
      obtain ⟨v24, g0, gv24, V⟩ := V
      refine e_iald fR_packed_89 g0 gv24 ?_
      refine e_i2l fR_packed_90 rfl ?_
      refine e_bipush (v := 30) fR_packed_91 (by decide) ?_
      refine e_lshl fR_packed_93 rfl ?_
      refine e_lor fR_packed_94 ?_
      refine e_topl (fun x25 ex25 => ?_)
      have V := V x25 ex25
      refine e_lstore (ls' := [(4, .long x25), (2, .long x16), (0, .ref p0), (1, .int p1)]) fR_packed_95 (by decide) rfl ?_
      refine e_aload_n fR_packed_97 rfl 2 rfl ?_
      obtain ⟨v26, gv26, V⟩ := V
      refine e_get fR_packed_98 kR_64 gv26 ?_
      refine e_iload_n fR_packed_101 rfl 3 rfl ?_
      obtain ⟨v27, g0, gv27, V⟩ := V
      refine e_zald fR_packed_102 g0 gv27 ?_
      obtain ⟨J29, VJ29, V⟩ := V
      have KJ29 : ∀ (j28 : Int64), J29 j28 → Ev l G M_R_packed 111 [(0, .ref p0), (1, .int p1), (2, .long x16), (4, .long x25)] [.long j28] h8 0 0 (ev_fin G M_R_packed P) := by
        intro j28 hj
        have V := Eq.mp (congrFun VJ29 j28) hj
        refine e_aload_n fR_packed_111 rfl 0 rfl ?_
        obtain ⟨v30, gv30, V⟩ := V
        refine e_get fR_packed_112 kR_68 gv30 ?_
        refine e_iload_n fR_packed_115 rfl 1 rfl ?_
        obtain ⟨v31, g0, gv31, V⟩ := V
        refine e_zald fR_packed_116 g0 gv31 ?_
        obtain ⟨J33, VJ33, V⟩ := V
        have KJ33 : ∀ (j32 : Int64), J33 j32 → Ev l G M_R_packed 127 [(0, .ref p0), (1, .int p1), (2, .long x16), (4, .long x25)] [.long j32, .long j28] h8 0 0 (ev_fin G M_R_packed P) := by
          intro j32 hj
          have V := Eq.mp (congrFun VJ33 j32) hj
          refine e_lor fR_packed_127 ?_
          refine e_aload_n fR_packed_128 rfl 0 rfl ?_
          obtain ⟨v34, gv34, V⟩ := V
          refine e_get fR_packed_129 kR_40 gv34 ?_
          refine e_iload_n fR_packed_132 rfl 1 rfl ?_
          obtain ⟨v35, g0, gv35, V⟩ := V
          refine e_iald fR_packed_133 g0 gv35 ?_
          refine e_i2l fR_packed_134 rfl ?_
          refine e_iconst (v := 2) fR_packed_135 (by decide) ?_
          refine e_lshl fR_packed_136 rfl ?_
          refine e_lor fR_packed_137 ?_
          refine e_topl (fun x36 ex36 => ?_)
          have V := V x36 ex36
          refine e_lstore (ls' := [(6, .long x36), (0, .ref p0), (1, .int p1), (2, .long x16), (4, .long x25)]) fR_packed_138 (by decide) rfl ?_
          refine e_lload_n fR_packed_140 rfl 3 rfl ?_
          refine e_lload fR_packed_141 4 rfl ?_
          refine e_bipush (v := 12) fR_packed_143 (by decide) ?_
          refine e_lshl fR_packed_145 rfl ?_
          refine e_lor fR_packed_146 ?_
          refine e_lload fR_packed_147 0 rfl ?_
          refine e_bipush (v := 52) fR_packed_149 (by decide) ?_
          refine e_lshl fR_packed_151 rfl ?_
          refine e_lor fR_packed_152 ?_
          exact e_lret fR_packed_153 rfl V
        refine e_if_eq (tgt := 126) fR_packed_117 (by decide) (fun z => ?_) (fun z => ?_)
        · have V := V.1 z
          refine e_lconst (v := 0) fR_packed_126 (by decide) ?_
          exact Ev.widen (by decide) (by decide) (Ev.loc [0, 1, 2, 3] rfl (KJ33 _ V))
        · have V := V.2 z
          refine e_ldc2 (v := 2) fR_packed_120 iR_134 ?_
          refine e_goto (tgt := 127) fR_packed_123 (by decide) ?_
          exact Ev.widen (by decide) (by decide) (Ev.loc [0, 1, 2, 3] rfl (KJ33 _ V))
      refine e_if_eq (tgt := 110) fR_packed_103 (by decide) (fun z => ?_) (fun z => ?_)
      · have V := V.1 z
        refine e_lconst (v := 0) fR_packed_110 (by decide) ?_
        exact Ev.widen (by decide) (by decide) (Ev.loc [2, 3, 1, 0] rfl (KJ29 _ V))
      · have V := V.2 z
        refine e_lconst (v := 1) fR_packed_106 (by decide) ?_
        refine e_goto (tgt := 111) fR_packed_107 (by decide) ?_
        exact Ev.widen (by decide) (by decide) (Ev.loc [2, 3, 1, 0] rfl (KJ29 _ V))
    · have V := V.2 z
      refine e_lconst (v := 0) fR_packed_24 (by decide) ?_
      exact e_lret fR_packed_25 rfl V
  refine e_if_eq (tgt := 13) fR_packed_6 (by decide) (fun z => ?_) (fun z => ?_)
  · have V := V.1 z
    refine e_iconst (v := 1) fR_packed_13 (by decide) ?_
    exact Ev.widen (by decide) (by decide) (Ev.loc [0, 1] rfl (KJ6 _ V))
  · have V := V.2 z
    refine e_iconst (v := 0) fR_packed_9 (by decide) ?_
    refine e_goto (tgt := 14) fR_packed_10 (by decide) ?_
    exact Ev.widen (by decide) (by decide) (Ev.loc [0, 1] rfl (KJ6 _ V))
set_option maxRecDepth 20000 in
theorem vR_count_28 {l : Launch} {G : ev_G} {h : ev_AH} {P : ev_Post} {a0 : Nat} {a1 : Int32} {a2 : Int32} {a3 : Int32} (V : ∃ v1 : Int32, ev_f h a0 4 12 = some (.int v1) ∧ ((v1 ≤ a3 → ((a1 = 2 → P (.inl (some (.int a2))) h) ∧ (¬ a1 = 2 → ((¬ a1 = 3 → P (.inl (some (.int (-1)))) h) ∧ (a1 = 3 → P (.inl (some (.int a2))) h))))) ∧ (¬ v1 ≤ a3 → ∃ J3 : Int32 → Prop, J3 = (fun (j2 : Int32) => ∀ x4 : Int32, x4 = a2 + j2 → ∀ x5 : Int32, x5 = a3 + 1 → Ev l G M_R_count 28 [(0, .ref a0), (1, .int a1), (2, .int x4), (3, .int x5)] [] h 0 0 (ev_fin G M_R_count P)) ∧ ((¬ a1 = 2 → ∃ v6 : Nat, ev_f h a0 4 20 = some (.ref v6) ∧ ∃ v7 : Int32, ¬ a3 < 0 ∧ ev_f h v6 100 (Int32.toNatClampNeg a3) = some (.int v7) ∧ J3 v7) ∧ (a1 = 2 → ∃ v8 : Nat, ev_f h a0 4 21 = some (.ref v8) ∧ ∃ v9 : Int32, ¬ a3 < 0 ∧ ev_f h v8 101 (Int32.toNatClampNeg a3) = some (.int v9) ∧ ((v9 = 0 → J3 0) ∧ (¬ v9 = 0 → ∃ v10 : Nat, ev_f h a0 4 6 = some (.ref v10) ∧ ∃ v11 : Nat, ev_f h a0 4 13 = some (.ref v11) ∧ ∃ v12 : Int32, ¬ a3 < 0 ∧ ev_f h v11 100 (Int32.toNatClampNeg a3) = some (.int v12) ∧ ∃ v13 : Int32, ¬ v12 < 0 ∧ ev_f h v10 100 (Int32.toNatClampNeg v12) = some (.int v13) ∧ ((4 ≤ v13 → J3 0) ∧ (¬ 4 ≤ v13 → ∃ v14 : Nat, ev_f h a0 4 18 = some (.ref v14) ∧ ∃ v15 : Int32, ¬ a3 < 0 ∧ ev_f h v14 100 (Int32.toNatClampNeg a3) = some (.int v15) ∧ J3 v15))))))))) : Ev l G M_R_count 28 [(0, .ref a0), (1, .int a1), (2, .int a2), (3, .int a3)] [] h 0 0 (ev_fin G M_R_count P) := by
  refine e_iload_n fR_count_28 rfl 3 rfl ?_
  refine e_aload_n fR_count_29 rfl 0 rfl ?_
  obtain ⟨v1, gv1, V⟩ := V
  refine e_get fR_count_30 kR_82 gv1 ?_
  refine e_icmp_ge (tgt := 93) fR_count_33 (by decide) (fun z => ?_) (fun z => ?_)
  · have V := V.1 z
    refine e_iload_n fR_count_93 rfl 1 rfl ?_
    refine e_iconst (v := 2) fR_count_94 (by decide) ?_
    refine e_icmp_eq (tgt := 103) fR_count_95 (by decide) (fun z => ?_) (fun z => ?_)
    · have V := V.1 z
      refine e_iload_n fR_count_103 rfl 2 rfl ?_
      refine e_goto (tgt := 108) fR_count_104 (by decide) ?_
      exact e_iret fR_count_108 rfl V
    · have V := V.2 z
      refine e_iload_n fR_count_98 rfl 1 rfl ?_
      refine e_iconst (v := 3) fR_count_99 (by decide) ?_
      refine e_icmp_ne (tgt := 107) fR_count_100 (by decide) (fun z => ?_) (fun z => ?_)
      · have V := V.1 z
        refine e_iconst (v := -1) fR_count_107 (by decide) ?_
        exact e_iret fR_count_108 rfl V
      · have V := V.2 z
        refine e_iload_n fR_count_103 rfl 2 rfl ?_
        refine e_goto (tgt := 108) fR_count_104 (by decide) ?_
        exact e_iret fR_count_108 rfl V
  · have V := V.2 z
    refine e_iload_n fR_count_36 rfl 2 rfl ?_
    refine e_iload_n fR_count_37 rfl 1 rfl ?_
    refine e_iconst (v := 2) fR_count_38 (by decide) ?_
    obtain ⟨J3, VJ3, V⟩ := V
    have KJ3 : ∀ (j2 : Int32), J3 j2 → Ev l G M_R_count 85 [(0, .ref a0), (1, .int a1), (2, .int a2), (3, .int a3)] [.int j2, .int a2] h 0 0 (ev_fin G M_R_count P) := by
      intro j2 hj
      have V := Eq.mp (congrFun VJ3 j2) hj
      refine e_iadd fR_count_85 ?_
      refine e_topi (fun x4 ex4 => ?_)
      have V := V x4 ex4
      refine e_istore_n (ls' := [(2, .int x4), (0, .ref a0), (1, .int a1), (3, .int a3)]) fR_count_86 rfl (by decide) rfl ?_
      obtain ⟨x5, ex5⟩ : ∃ z : Int32, z = a3 + 1 := ⟨_, rfl⟩
      have V := V x5 ex5
      refine e_iinc (v := x5) (k := 3) (ls' := [(3, .int x5), (2, .int x4), (0, .ref a0), (1, .int a1)]) fR_count_87 rfl (by rw [ex5]; rfl) (by decide) rfl ?_
      refine e_goto (tgt := 28) fR_count_90 (by decide) ?_
      exact Ev.loc [2, 3, 1, 0] rfl V
    refine e_icmp_ne (tgt := 79) fR_count_39 (by decide) (fun z => ?_) (fun z => ?_)
    · have V := V.1 z
      refine e_aload_n fR_count_79 rfl 0 rfl ?_
      obtain ⟨v6, gv6, V⟩ := V
      refine e_get fR_count_80 kR_61 gv6 ?_
      refine e_iload_n fR_count_83 rfl 3 rfl ?_
      obtain ⟨v7, g0, gv7, V⟩ := V
      refine e_iald fR_count_84 g0 gv7 ?_
      exact Ev.widen (by decide) (by decide) (Ev.loc [0, 1, 2, 3] rfl (KJ3 _ V))
    · have V := V.2 z
      refine e_aload_n fR_count_42 rfl 0 rfl ?_
      obtain ⟨v8, gv8, V⟩ := V
      refine e_get fR_count_43 kR_64 gv8 ?_
      refine e_iload_n fR_count_46 rfl 3 rfl ?_
      obtain ⟨v9, g0, gv9, V⟩ := V
      refine e_zald fR_count_47 g0 gv9 ?_
      refine e_if_eq (tgt := 75) fR_count_48 (by decide) (fun z => ?_) (fun z => ?_)
      · have V := V.1 z
        refine e_iconst (v := 0) fR_count_75 (by decide) ?_
        refine e_goto (tgt := 85) fR_count_76 (by decide) ?_
        exact Ev.widen (by decide) (by decide) (Ev.loc [0, 1, 2, 3] rfl (KJ3 _ V))
      · have V := V.2 z
        refine e_aload_n fR_count_51 rfl 0 rfl ?_
        obtain ⟨v10, gv10, V⟩ := V
        refine e_get fR_count_52 kR_22 gv10 ?_
        refine e_aload_n fR_count_55 rfl 0 rfl ?_
        obtain ⟨v11, gv11, V⟩ := V
        refine e_get fR_count_56 kR_40 gv11 ?_
        refine e_iload_n fR_count_59 rfl 3 rfl ?_
        obtain ⟨v12, g0, gv12, V⟩ := V
        refine e_iald fR_count_60 g0 gv12 ?_
        obtain ⟨v13, g0, gv13, V⟩ := V
        refine e_iald fR_count_61 g0 gv13 ?_
        refine e_iconst (v := 4) fR_count_62 (by decide) ?_
        refine e_icmp_ge (tgt := 75) fR_count_63 (by decide) (fun z => ?_) (fun z => ?_)
        · have V := V.1 z
          refine e_iconst (v := 0) fR_count_75 (by decide) ?_
          refine e_goto (tgt := 85) fR_count_76 (by decide) ?_
          exact Ev.widen (by decide) (by decide) (Ev.loc [0, 1, 2, 3] rfl (KJ3 _ V))
        · have V := V.2 z
          refine e_aload_n fR_count_66 rfl 0 rfl ?_
          obtain ⟨v14, gv14, V⟩ := V
          refine e_get fR_count_67 kR_55 gv14 ?_
          refine e_iload_n fR_count_70 rfl 3 rfl ?_
          obtain ⟨v15, g0, gv15, V⟩ := V
          refine e_iald fR_count_71 g0 gv15 ?_
          refine e_goto (tgt := 85) fR_count_72 (by decide) ?_
          exact Ev.widen (by decide) (by decide) (Ev.loc [0, 1, 2, 3] rfl (KJ3 _ V))
set_option maxRecDepth 20000 in
theorem vR_count {l : Launch} {G : ev_G} {h : ev_AH} {P : ev_Post} {p0 : Nat} {p1 : Int32} (V : ∃ w1 : Value, ev_f h p0 4 0 = some w1 ∧ ∀ h2 : ev_AH, h2 = ev_s h p0 0 (.int 0) → ((¬ p1 = 0 → ((¬ p1 = 1 → Ev l G M_R_count 28 [(0, .ref p0), (1, .int p1), (2, .int 0), (3, .int 0)] [] h2 0 0 (ev_fin G M_R_count P)) ∧ (p1 = 1 → ∃ v3 : Int32, ev_f h2 p0 4 12 = some (.int v3) ∧ P (.inl (some (.int v3))) h2))) ∧ (p1 = 0 → ∃ v4 : Int32, ev_f h2 p0 4 1 = some (.int v4) ∧ P (.inl (some (.int v4))) h2))) : Mt l G M_R_count [.ref p0, .int p1] h P := by
  refine Mt.of rfl rfl (Nat.le_of_ble_eq_true rfl) ?_
  show Ev l G M_R_count 0 [(0, .ref p0), (1, .int p1)] [] h 0 0 (ev_fin G M_R_count P)
  refine e_aload_n fR_count_0 rfl 0 rfl ?_
  refine e_iconst (v := 0) fR_count_1 (by decide) ?_
  obtain ⟨w1, gw1, V⟩ := V
  refine e_put fR_count_2 pR_71 gw1 rfl rfl (fun h2 eh2 => ?_)
  have V := V h2 eh2
  refine e_iload_n fR_count_5 rfl 1 rfl ?_
  refine e_if_ne (tgt := 14) fR_count_6 (by decide) (fun z => ?_) (fun z => ?_)
  · have V := V.1 z
    refine e_iload_n fR_count_14 rfl 1 rfl ?_
    refine e_iconst (v := 1) fR_count_15 (by decide) ?_
    refine e_icmp_ne (tgt := 24) fR_count_16 (by decide) (fun z => ?_) (fun z => ?_)
    · have V := V.1 z
      refine e_iconst (v := 0) fR_count_24 (by decide) ?_
      refine e_istore_n (ls' := [(2, .int 0), (0, .ref p0), (1, .int p1)]) fR_count_25 rfl (by decide) rfl ?_
      refine e_iconst (v := 0) fR_count_26 (by decide) ?_
      refine e_istore_n (ls' := [(3, .int 0), (2, .int 0), (0, .ref p0), (1, .int p1)]) fR_count_27 rfl (by decide) rfl ?_
      exact Ev.loc [2, 3, 1, 0] rfl V
    · have V := V.2 z
      refine e_aload_n fR_count_19 rfl 0 rfl ?_
      obtain ⟨v3, gv3, V⟩ := V
      refine e_get fR_count_20 kR_82 gv3 ?_
      exact e_iret fR_count_23 rfl V
  · have V := V.2 z
    refine e_aload_n fR_count_9 rfl 0 rfl ?_
    obtain ⟨v4, gv4, V⟩ := V
    refine e_get fR_count_10 kR_75 gv4 ?_
    exact e_iret fR_count_13 rfl V
