set_option maxHeartbeats 4000000 in
set_option maxRecDepth 100000 in
theorem kX1_measure (l : Launch) (D : va_G) (cI cB : ClassId) (tE tN : Nat) (hF : Nat) (cF : Nat) (aF : Nat) (wF : Nat) (f : Nat → Int32) (t1 : Int64) (t2 : Int64) (t3 : Int64) (t4 : Int64) (ia : Nat) (ib : Nat) (ph : Int32) (ps : Int32) (sz : Nat) (ha : ia ≤ 6) (hb6 : ib ≤ 6) : zV l yX1_measure wsX1_measure ({ frames := 0, cells := 0, slots := 0, locals := 0 }) D cI cB tE tN [.ref hF, .int (nI ia), .int ph, .int ps, .int (nI ib)] [(hF, .inr (1, [.ref cF, .ref aF, .ref wF])), (cF, .inl (cI, 39, .inl f)), (aF, .inr (0, [.long t1, .long t2, .long t3, .long t4]))] sz (fun u : Int64 × Int64 × Int64 × Int64 => [(hF, .inr (1, [.ref cF, .ref aF, .ref wF])), (cF, .inl (cI, 39, .inl f)), (aF, .inr (0, [.long u.1, .long u.2.1, .long u.2.2.1, .long u.2.2.2]))]) (fun (u : Int64 × Int64 × Int64 × Int64) => (u.1, u.2.1, u.2.2.1, u.2.2.2) = cMs f ia ph ps ib) 0 0 := by
  refine zV_mk (cc := cX1_measure) (maxL := 19) (by decide) rfl (Nat.le_of_ble_eq_true rfl) ?_
  intro p e s m below meth c A Q ls S0 hname hA hK hP hD hT hS hQ hl
  obtain ⟨hx, hb, hml, hown, hts⟩ := id S0
  have hl : lv_has ls 19 [(0, .ref hF), (1, .int (nI ia)), (2, .int ph), (3, .int ps), (4, .int (nI ib))] := hl
  have L11 : (Cond.fieldLink RX1 11 "PastAndClear$Fleet" "cells" "[I").before ([.ref hF, .int (nI ia), .int ph, .int ps, .int (nI ib)] : List Value).toArray s = true := hts (.fieldLink RX1 11 "PastAndClear$Fleet" "cells" "[I") (by decide +kernel)
  have N1 : ∀ w ∈ u_ws RX1 TX1 3, w ∈ wsX1_measure := by decide +kernel
  have L36 : (Cond.fieldLink RX1 36 "PastAndClear$Fleet" "EAST" "[I").before ([.ref hF, .int (nI ia), .int ph, .int ps, .int (nI ib)] : List Value).toArray s = true := hts (.fieldLink RX1 36 "PastAndClear$Fleet" "EAST" "[I") (by decide +kernel)
  have L39 : (Cond.fieldLink RX1 39 "PastAndClear$Fleet" "NORTH" "[I").before ([.ref hF, .int (nI ia), .int ph, .int ps, .int (nI ib)] : List Value).toArray s = true := hts (.fieldLink RX1 39 "PastAndClear$Fleet" "NORTH" "[I") (by decide +kernel)
  have L18 : (Cond.fieldLink RX1 18 "PastAndClear$Fleet" "approach" "LPastAndClear$Approach;").before ([.ref hF, .int (nI ia), .int ph, .int ps, .int (nI ib)] : List Value).toArray s = true := hts (.fieldLink RX1 18 "PastAndClear$Fleet" "approach" "LPastAndClear$Approach;") (by decide +kernel)
  have L95 : (Cond.fieldLink RX1 95 "PastAndClear$Approach" "timeAbove" "J").before ([.ref hF, .int (nI ia), .int ph, .int ps, .int (nI ib)] : List Value).toArray s = true := hts (.fieldLink RX1 95 "PastAndClear$Approach" "timeAbove" "J") (by decide +kernel)
  have N0 : ∀ w ∈ u_ws RX0 TX0 4, w ∈ wsX1_measure := by decide +kernel
  have L99 : (Cond.fieldLink RX1 99 "PastAndClear$Approach" "timeBelow" "J").before ([.ref hF, .int (nI ia), .int ph, .int ps, .int (nI ib)] : List Value).toArray s = true := hts (.fieldLink RX1 99 "PastAndClear$Approach" "timeBelow" "J") (by decide +kernel)
  have L102 : (Cond.fieldLink RX1 102 "PastAndClear$Approach" "nearAbove" "J").before ([.ref hF, .int (nI ia), .int ph, .int ps, .int (nI ib)] : List Value).toArray s = true := hts (.fieldLink RX1 102 "PastAndClear$Approach" "nearAbove" "J") (by decide +kernel)
  have L105 : (Cond.fieldLink RX1 105 "PastAndClear$Approach" "nearBelow" "J").before ([.ref hF, .int (nI ia), .int ph, .int ps, .int (nI ib)] : List Value).toArray s = true := hts (.fieldLink RX1 105 "PastAndClear$Approach" "nearBelow" "J") (by decide +kernel)
  refine lv_aload_n hx hb dX1_measure_0 rfl (lv_at hl 0 rfl) ?_
  refine va_get (D := D) (ci := 1) (v := .ref cF) (C := RX1) (T := TX1) (N := 3) hx hb hts N1 hown hK hP 0 rfl rfl 0 (by decide) L11 (fun _ h9 => h9) rfl dX1_measure_1 ?_
  refine lv_iconst (v := 5) hx hb dX1_measure_4 (by decide) ?_
  refine lv_iload hx hb dX1_measure_5 (lv_at hl 4 rfl) ?_
  refine lv_imul hx hb dX1_measure_7 ?_
  refine lv_iconst (v := 2) hx hb dX1_measure_8 (by decide) ?_
  refine lv_iadd hx hb dX1_measure_9 ?_
  refine z_ild (v := f ((5 * ib) + 2)) (j := (5 * ib) + 2) hx hb hK hP 1 rfl (z_add (z_mul rfl rfl) rfl) (by omega) (by decide) (rfl) dX1_measure_10 ?_
  refine lv_istore (lv' := [(5, .int (f ((5 * ib) + 2))), (0, .ref hF), (1, .int (nI ia)), (2, .int ph), (3, .int ps), (4, .int (nI ib))]) hx hb dX1_measure_11 hl (by decide) rfl (fun ls hl => ?_)
  refine lv_aload_n hx hb dX1_measure_13 rfl (lv_at hl 1 rfl) ?_
  refine va_get (D := D) (ci := 1) (v := .ref cF) (C := RX1) (T := TX1) (N := 3) hx hb hts N1 hown hK hP 0 rfl rfl 0 (by decide) L11 (fun _ h9 => h9) rfl dX1_measure_14 ?_
  refine lv_iconst (v := 5) hx hb dX1_measure_17 (by decide) ?_
  refine lv_iload hx hb dX1_measure_18 (lv_at hl 5 rfl) ?_
  refine lv_imul hx hb dX1_measure_20 ?_
  refine lv_iconst (v := 3) hx hb dX1_measure_21 (by decide) ?_
  refine lv_iadd hx hb dX1_measure_22 ?_
  refine z_ild (v := f ((5 * ib) + 3)) (j := (5 * ib) + 3) hx hb hK hP 1 rfl (z_add (z_mul rfl rfl) rfl) (by omega) (by decide) (rfl) dX1_measure_23 ?_
  refine lv_istore (lv' := [(6, .int (f ((5 * ib) + 3))), (5, .int (f ((5 * ib) + 2))), (0, .ref hF), (1, .int (nI ia)), (2, .int ph), (3, .int ps), (4, .int (nI ib))]) hx hb dX1_measure_24 hl (by decide) rfl (fun ls hl => ?_)
  refine lv_aload_n hx hb dX1_measure_26 rfl (lv_at hl 2 rfl) ?_
  refine va_get (D := D) (ci := 1) (v := .ref cF) (C := RX1) (T := TX1) (N := 3) hx hb hts N1 hown hK hP 0 rfl rfl 0 (by decide) L11 (fun _ h9 => h9) rfl dX1_measure_27 ?_
  refine lv_iconst (v := 5) hx hb dX1_measure_30 (by decide) ?_
  refine lv_iload hx hb dX1_measure_31 (lv_at hl 6 rfl) ?_
  refine lv_imul hx hb dX1_measure_33 ?_
  refine lv_iconst (v := 0) hx hb dX1_measure_34 (by decide) ?_
  refine lv_iadd hx hb dX1_measure_35 ?_
  refine z_ild (v := f ((5 * ib) + 0)) (j := (5 * ib) + 0) hx hb hK hP 1 rfl (z_add (z_mul rfl rfl) rfl) (by omega) (by decide) (rfl) dX1_measure_36 ?_
  refine lv_aload_n hx hb dX1_measure_37 rfl (lv_at hl 2 rfl) ?_
  refine va_get (D := D) (ci := 1) (v := .ref cF) (C := RX1) (T := TX1) (N := 3) hx hb hts N1 hown hK hP 0 rfl rfl 0 (by decide) L11 (fun _ h9 => h9) rfl dX1_measure_38 ?_
  refine lv_iconst (v := 5) hx hb dX1_measure_41 (by decide) ?_
  refine lv_iload_n hx hb dX1_measure_42 rfl (lv_at hl 3 rfl) ?_
  refine lv_imul hx hb dX1_measure_43 ?_
  refine lv_iconst (v := 0) hx hb dX1_measure_44 (by decide) ?_
  refine lv_iadd hx hb dX1_measure_45 ?_
  refine z_ild (v := f ((5 * ia) + 0)) (j := (5 * ia) + 0) hx hb hK hP 1 rfl (z_add (z_mul rfl rfl) rfl) (by omega) (by decide) (rfl) dX1_measure_46 ?_
  refine lv_isub hx hb dX1_measure_47 ?_
  refine lv_i2l (v := ((f ((5 * ib) + 0)) - (f ((5 * ia) + 0))).toInt64) hx hb dX1_measure_48 rfl ?_
  refine lv_topl (fun rx erx => ?_)
  refine lv_lstore (lv' := [(7, .long rx), (6, .int (f ((5 * ib) + 3))), (5, .int (f ((5 * ib) + 2))), (0, .ref hF), (1, .int (nI ia)), (2, .int ph), (3, .int ps), (4, .int (nI ib))]) hx hb dX1_measure_49 hl (by decide) rfl (fun ls hl => ?_)
  refine lv_aload_n hx hb dX1_measure_51 rfl (lv_at hl 3 rfl) ?_
  refine va_get (D := D) (ci := 1) (v := .ref cF) (C := RX1) (T := TX1) (N := 3) hx hb hts N1 hown hK hP 0 rfl rfl 0 (by decide) L11 (fun _ h9 => h9) rfl dX1_measure_52 ?_
  refine lv_iconst (v := 5) hx hb dX1_measure_55 (by decide) ?_
  refine lv_iload hx hb dX1_measure_56 (lv_at hl 7 rfl) ?_
  refine lv_imul hx hb dX1_measure_58 ?_
  refine lv_iconst (v := 1) hx hb dX1_measure_59 (by decide) ?_
  refine lv_iadd hx hb dX1_measure_60 ?_
  refine z_ild (v := f ((5 * ib) + 1)) (j := (5 * ib) + 1) hx hb hK hP 1 rfl (z_add (z_mul rfl rfl) rfl) (by omega) (by decide) (rfl) dX1_measure_61 ?_
  refine lv_aload_n hx hb dX1_measure_62 rfl (lv_at hl 3 rfl) ?_
  refine va_get (D := D) (ci := 1) (v := .ref cF) (C := RX1) (T := TX1) (N := 3) hx hb hts N1 hown hK hP 0 rfl rfl 0 (by decide) L11 (fun _ h9 => h9) rfl dX1_measure_63 ?_
  refine lv_iconst (v := 5) hx hb dX1_measure_66 (by decide) ?_
  refine lv_iload_n hx hb dX1_measure_67 rfl (lv_at hl 4 rfl) ?_
  refine lv_imul hx hb dX1_measure_68 ?_
  refine lv_iconst (v := 1) hx hb dX1_measure_69 (by decide) ?_
  refine lv_iadd hx hb dX1_measure_70 ?_
  refine z_ild (v := f ((5 * ia) + 1)) (j := (5 * ia) + 1) hx hb hK hP 1 rfl (z_add (z_mul rfl rfl) rfl) (by omega) (by decide) (rfl) dX1_measure_71 ?_
  refine lv_isub hx hb dX1_measure_72 ?_
  refine lv_i2l (v := ((f ((5 * ib) + 1)) - (f ((5 * ia) + 1))).toInt64) hx hb dX1_measure_73 rfl ?_
  refine lv_topl (fun ry ery => ?_)
  refine lv_lstore (lv' := [(9, .long ry), (7, .long rx), (6, .int (f ((5 * ib) + 3))), (5, .int (f ((5 * ib) + 2))), (0, .ref hF), (1, .int (nI ia)), (2, .int ph), (3, .int ps), (4, .int (nI ib))]) hx hb dX1_measure_74 hl (by decide) rfl (fun ls hl => ?_)
  refine lv_iload hx hb dX1_measure_76 (lv_at hl 2 rfl) ?_
  refine va_gets hx hb hT.1.1 hS hown L36 (fun _ h9 => h9) dX1_measure_78 ?_
  refine lv_iload hx hb dX1_measure_81 (lv_at hl 3 rfl) ?_
  refine lv_bipush (v := 15) hx hb dX1_measure_83 (by decide) ?_
  refine lv_iand hx hb dX1_measure_85 ?_
  refine va_ti (v := .int (eE ((f ((5 * ib) + 2)) &&& 15).toNatClampNeg)) hx hb hT.1.2 hS (z_and15 _) rfl dX1_measure_86 ?_
  refine lv_imul hx hb dX1_measure_87 ?_
  refine lv_iload_n hx hb dX1_measure_88 rfl (lv_at hl 7 rfl) ?_
  refine va_gets hx hb hT.1.1 hS hown L36 (fun _ h9 => h9) dX1_measure_89 ?_
  refine lv_iload_n hx hb dX1_measure_92 rfl (lv_at hl 6 rfl) ?_
  refine lv_bipush (v := 15) hx hb dX1_measure_93 (by decide) ?_
  refine lv_iand hx hb dX1_measure_95 ?_
  refine va_ti (v := .int (eE (ph &&& 15).toNatClampNeg)) hx hb hT.1.2 hS (z_and15 _) rfl dX1_measure_96 ?_
  refine lv_imul hx hb dX1_measure_97 ?_
  refine lv_isub hx hb dX1_measure_98 ?_
  refine lv_i2l (v := (((f ((5 * ib) + 3)) * (eE ((f ((5 * ib) + 2)) &&& 15).toNatClampNeg)) - (ps * (eE (ph &&& 15).toNatClampNeg))).toInt64) hx hb dX1_measure_99 rfl ?_
  refine lv_topl (fun vx evx => ?_)
  refine lv_lstore (lv' := [(11, .long vx), (9, .long ry), (7, .long rx), (6, .int (f ((5 * ib) + 3))), (5, .int (f ((5 * ib) + 2))), (0, .ref hF), (1, .int (nI ia)), (2, .int ph), (3, .int ps), (4, .int (nI ib))]) hx hb dX1_measure_100 hl (by decide) rfl (fun ls hl => ?_)
  refine lv_iload hx hb dX1_measure_102 (lv_at hl 3 rfl) ?_
  refine va_gets hx hb hT.2.1.1 hS hown L39 (fun _ h9 => h9) dX1_measure_104 ?_
  refine lv_iload hx hb dX1_measure_107 (lv_at hl 4 rfl) ?_
  refine lv_bipush (v := 15) hx hb dX1_measure_109 (by decide) ?_
  refine lv_iand hx hb dX1_measure_111 ?_
  refine va_ti (v := .int (eN ((f ((5 * ib) + 2)) &&& 15).toNatClampNeg)) hx hb hT.2.1.2 hS (z_and15 _) rfl dX1_measure_112 ?_
  refine lv_imul hx hb dX1_measure_113 ?_
  refine lv_iload_n hx hb dX1_measure_114 rfl (lv_at hl 8 rfl) ?_
  refine va_gets hx hb hT.2.1.1 hS hown L39 (fun _ h9 => h9) dX1_measure_115 ?_
  refine lv_iload_n hx hb dX1_measure_118 rfl (lv_at hl 7 rfl) ?_
  refine lv_bipush (v := 15) hx hb dX1_measure_119 (by decide) ?_
  refine lv_iand hx hb dX1_measure_121 ?_
  refine va_ti (v := .int (eN (ph &&& 15).toNatClampNeg)) hx hb hT.2.1.2 hS (z_and15 _) rfl dX1_measure_122 ?_
  refine lv_imul hx hb dX1_measure_123 ?_
  refine lv_isub hx hb dX1_measure_124 ?_
  refine lv_i2l (v := (((f ((5 * ib) + 3)) * (eN ((f ((5 * ib) + 2)) &&& 15).toNatClampNeg)) - (ps * (eN (ph &&& 15).toNatClampNeg))).toInt64) hx hb dX1_measure_125 rfl ?_
  refine lv_topl (fun vy evy => ?_)
  refine lv_lstore (lv' := [(13, .long vy), (11, .long vx), (9, .long ry), (7, .long rx), (6, .int (f ((5 * ib) + 3))), (5, .int (f ((5 * ib) + 2))), (0, .ref hF), (1, .int (nI ia)), (2, .int ph), (3, .int ps), (4, .int (nI ib))]) hx hb dX1_measure_126 hl (by decide) rfl (fun ls hl => ?_)
  refine lv_lload hx hb dX1_measure_128 (lv_at hl 3 rfl) ?_
  refine lv_lload hx hb dX1_measure_130 (lv_at hl 1 rfl) ?_
  refine lv_lmul hx hb dX1_measure_132 ?_
  refine lv_lload hx hb dX1_measure_133 (lv_at hl 2 rfl) ?_
  refine lv_lload hx hb dX1_measure_135 (lv_at hl 0 rfl) ?_
  refine lv_lmul hx hb dX1_measure_137 ?_
  refine lv_ladd hx hb dX1_measure_138 ?_
  refine lv_topl (fun pa epa => ?_)
  refine lv_lstore (lv' := [(15, .long pa), (13, .long vy), (11, .long vx), (9, .long ry), (7, .long rx), (6, .int (f ((5 * ib) + 3))), (5, .int (f ((5 * ib) + 2))), (0, .ref hF), (1, .int (nI ia)), (2, .int ph), (3, .int ps), (4, .int (nI ib))]) hx hb dX1_measure_139 hl (by decide) rfl (fun ls hl => ?_)
  have hms : cMs f ia ph ps ib = if pa < 0 then (-pa, vx * vx + vy * vy, (rx * vy - ry * vx) * (rx * vy - ry * vx), vx * vx + vy * vy) else (0, 1, rx * rx + ry * ry, 1) := by
    subst epa; subst evy; subst evx; subst ery; subst erx
    rfl
  refine lv_lload hx hb dX1_measure_141 (lv_at hl 0 rfl) ?_
  refine lv_lconst (v := 0) hx hb dX1_measure_143 (by decide) ?_
  refine W.lcmp hx hb dX1_measure_144 ?_
  refine lv_if_lt (tgt := 191) hx hb dX1_measure_145 (by decide) (fun c_1 => ?_) (fun c_1 => ?_)
  · skip
    have c_1 := (lg_cmp_lt _ _).mp c_1
    refine lv_lload hx hb dX1_measure_191 (lv_at hl 4 rfl) ?_
    refine lv_lload hx hb dX1_measure_193 (lv_at hl 1 rfl) ?_
    refine lv_lmul hx hb dX1_measure_195 ?_
    refine lv_lload hx hb dX1_measure_196 (lv_at hl 3 rfl) ?_
    refine lv_lload hx hb dX1_measure_198 (lv_at hl 2 rfl) ?_
    refine lv_lmul hx hb dX1_measure_200 ?_
    refine lv_lsub hx hb dX1_measure_201 ?_
    refine lv_lstore (lv' := [(17, .long ((rx * vy) - (ry * vx))), (15, .long pa), (13, .long vy), (11, .long vx), (9, .long ry), (7, .long rx), (6, .int (f ((5 * ib) + 3))), (5, .int (f ((5 * ib) + 2))), (0, .ref hF), (1, .int (nI ia)), (2, .int ph), (3, .int ps), (4, .int (nI ib))]) hx hb dX1_measure_202 hl (by decide) rfl (fun ls hl => ?_)
    refine lv_aload_n hx hb dX1_measure_204 rfl (lv_at hl 8 rfl) ?_
    refine va_get (D := D) (ci := 1) (v := .ref aF) (C := RX1) (T := TX1) (N := 3) hx hb hts N1 hown hK hP 0 rfl rfl 1 (by decide) L18 (fun _ h9 => h9) rfl dX1_measure_205 ?_
    refine lv_lload hx hb dX1_measure_208 (lv_at hl 1 rfl) ?_
    refine lv_lneg hx hb dX1_measure_210 ?_
    refine va_put (D := D) (ci := 0) (v := .long (-pa)) (ty := .long) (C := RX0) (T := TX0) (N := 4) hx hb hts N0 tyX0 tyX0_ok nmX0 hown hK hP hD hS 2 rfl rfl 0 (by decide) L95 (fun _ h9 => h9) rfl (by decide +kernel) rfl rfl (Nat.le_of_ble_eq_true rfl) dX1_measure_211 (fun H locs hP hD hS => ?_)
    have hP : va_P D vwCl [(hF, .inr (1, [.ref cF, .ref aF, .ref wF])), (cF, .inl (cI, 39, .inl f)), (aF, .inr (0, [.long (-pa), .long t2, .long t3, .long t4]))] H := hP
    have hD : va_D A [(hF, .inr (1, [.ref cF, .ref aF, .ref wF])), (cF, .inl (cI, 39, .inl f)), (aF, .inr (0, [.long (-pa), .long t2, .long t3, .long t4]))] := hD
    refine lv_aload_n hx hb dX1_measure_214 rfl (lv_at hl 8 rfl) ?_
    refine va_get (D := D) (ci := 1) (v := .ref aF) (C := RX1) (T := TX1) (N := 3) hx hb hts N1 hown hK hP 0 rfl rfl 1 (by decide) L18 (fun _ h9 => h9) rfl dX1_measure_215 ?_
    refine lv_lload hx hb dX1_measure_218 (lv_at hl 3 rfl) ?_
    refine lv_lload hx hb dX1_measure_220 (lv_at hl 3 rfl) ?_
    refine lv_lmul hx hb dX1_measure_222 ?_
    refine lv_lload hx hb dX1_measure_223 (lv_at hl 2 rfl) ?_
    refine lv_lload hx hb dX1_measure_225 (lv_at hl 2 rfl) ?_
    refine lv_lmul hx hb dX1_measure_227 ?_
    refine lv_ladd hx hb dX1_measure_228 ?_
    refine va_put (D := D) (ci := 0) (v := .long ((vx * vx) + (vy * vy))) (ty := .long) (C := RX0) (T := TX0) (N := 4) hx hb hts N0 tyX0 tyX0_ok nmX0 hown hK hP hD hS 2 rfl rfl 1 (by decide) L99 (fun _ h9 => h9) rfl (by decide +kernel) rfl rfl (Nat.le_of_ble_eq_true rfl) dX1_measure_229 (fun H locs hP hD hS => ?_)
    have hP : va_P D vwCl [(hF, .inr (1, [.ref cF, .ref aF, .ref wF])), (cF, .inl (cI, 39, .inl f)), (aF, .inr (0, [.long (-pa), .long ((vx * vx) + (vy * vy)), .long t3, .long t4]))] H := hP
    have hD : va_D A [(hF, .inr (1, [.ref cF, .ref aF, .ref wF])), (cF, .inl (cI, 39, .inl f)), (aF, .inr (0, [.long (-pa), .long ((vx * vx) + (vy * vy)), .long t3, .long t4]))] := hD
    refine lv_aload_n hx hb dX1_measure_232 rfl (lv_at hl 8 rfl) ?_
    refine va_get (D := D) (ci := 1) (v := .ref aF) (C := RX1) (T := TX1) (N := 3) hx hb hts N1 hown hK hP 0 rfl rfl 1 (by decide) L18 (fun _ h9 => h9) rfl dX1_measure_233 ?_
    refine lv_lload hx hb dX1_measure_236 (lv_at hl 0 rfl) ?_
    refine lv_lload hx hb dX1_measure_238 (lv_at hl 0 rfl) ?_
    refine lv_lmul hx hb dX1_measure_240 ?_
    refine va_put (D := D) (ci := 0) (v := .long (((rx * vy) - (ry * vx)) * ((rx * vy) - (ry * vx)))) (ty := .long) (C := RX0) (T := TX0) (N := 4) hx hb hts N0 tyX0 tyX0_ok nmX0 hown hK hP hD hS 2 rfl rfl 2 (by decide) L102 (fun _ h9 => h9) rfl (by decide +kernel) rfl rfl (Nat.le_of_ble_eq_true rfl) dX1_measure_241 (fun H locs hP hD hS => ?_)
    have hP : va_P D vwCl [(hF, .inr (1, [.ref cF, .ref aF, .ref wF])), (cF, .inl (cI, 39, .inl f)), (aF, .inr (0, [.long (-pa), .long ((vx * vx) + (vy * vy)), .long (((rx * vy) - (ry * vx)) * ((rx * vy) - (ry * vx))), .long t4]))] H := hP
    have hD : va_D A [(hF, .inr (1, [.ref cF, .ref aF, .ref wF])), (cF, .inl (cI, 39, .inl f)), (aF, .inr (0, [.long (-pa), .long ((vx * vx) + (vy * vy)), .long (((rx * vy) - (ry * vx)) * ((rx * vy) - (ry * vx))), .long t4]))] := hD
    refine lv_aload_n hx hb dX1_measure_244 rfl (lv_at hl 8 rfl) ?_
    refine va_get (D := D) (ci := 1) (v := .ref aF) (C := RX1) (T := TX1) (N := 3) hx hb hts N1 hown hK hP 0 rfl rfl 1 (by decide) L18 (fun _ h9 => h9) rfl dX1_measure_245 ?_
    refine lv_aload_n hx hb dX1_measure_248 rfl (lv_at hl 8 rfl) ?_
    refine va_get (D := D) (ci := 1) (v := .ref aF) (C := RX1) (T := TX1) (N := 3) hx hb hts N1 hown hK hP 0 rfl rfl 1 (by decide) L18 (fun _ h9 => h9) rfl dX1_measure_249 ?_
    refine va_get (D := D) (ci := 0) (v := .long ((vx * vx) + (vy * vy))) (C := RX0) (T := TX0) (N := 4) hx hb hts N0 hown hK hP 2 rfl rfl 1 (by decide) L99 (fun _ h9 => h9) rfl dX1_measure_252 ?_
    refine va_put (D := D) (ci := 0) (v := .long ((vx * vx) + (vy * vy))) (ty := .long) (C := RX0) (T := TX0) (N := 4) hx hb hts N0 tyX0 tyX0_ok nmX0 hown hK hP hD hS 2 rfl rfl 3 (by decide) L105 (fun _ h9 => h9) rfl (by decide +kernel) rfl rfl (Nat.le_of_ble_eq_true rfl) dX1_measure_255 (fun H locs hP hD hS => ?_)
    have hP : va_P D vwCl [(hF, .inr (1, [.ref cF, .ref aF, .ref wF])), (cF, .inl (cI, 39, .inl f)), (aF, .inr (0, [.long (-pa), .long ((vx * vx) + (vy * vy)), .long (((rx * vy) - (ry * vx)) * ((rx * vy) - (ry * vx))), .long ((vx * vx) + (vy * vy))]))] H := hP
    have hD : va_D A [(hF, .inr (1, [.ref cF, .ref aF, .ref wF])), (cF, .inl (cI, 39, .inl f)), (aF, .inr (0, [.long (-pa), .long ((vx * vx) + (vy * vy)), .long (((rx * vy) - (ry * vx)) * ((rx * vy) - (ry * vx))), .long ((vx * vx) + (vy * vy))]))] := hD
    exact hQ (-pa, (vx * vx) + (vy * vy), ((rx * vy) - (ry * vx)) * ((rx * vy) - (ry * vx)), (vx * vx) + (vy * vy)) _ _ _ _ (by rw [hms]; simp [c_1]) hP hD hS dX1_measure_258
  · skip
    have c_1 := mt (lg_cmp_lt _ _).mpr c_1
    refine lv_aload_n hx hb dX1_measure_148 rfl (lv_at hl 7 rfl) ?_
    refine va_get (D := D) (ci := 1) (v := .ref aF) (C := RX1) (T := TX1) (N := 3) hx hb hts N1 hown hK hP 0 rfl rfl 1 (by decide) L18 (fun _ h9 => h9) rfl dX1_measure_149 ?_
    refine lv_lconst (v := 0) hx hb dX1_measure_152 (by decide) ?_
    refine va_put (D := D) (ci := 0) (v := .long 0) (ty := .long) (C := RX0) (T := TX0) (N := 4) hx hb hts N0 tyX0 tyX0_ok nmX0 hown hK hP hD hS 2 rfl rfl 0 (by decide) L95 (fun _ h9 => h9) rfl (by decide +kernel) rfl rfl (Nat.le_of_ble_eq_true rfl) dX1_measure_153 (fun H locs hP hD hS => ?_)
    have hP : va_P D vwCl [(hF, .inr (1, [.ref cF, .ref aF, .ref wF])), (cF, .inl (cI, 39, .inl f)), (aF, .inr (0, [.long 0, .long t2, .long t3, .long t4]))] H := hP
    have hD : va_D A [(hF, .inr (1, [.ref cF, .ref aF, .ref wF])), (cF, .inl (cI, 39, .inl f)), (aF, .inr (0, [.long 0, .long t2, .long t3, .long t4]))] := hD
    refine lv_aload_n hx hb dX1_measure_156 rfl (lv_at hl 7 rfl) ?_
    refine va_get (D := D) (ci := 1) (v := .ref aF) (C := RX1) (T := TX1) (N := 3) hx hb hts N1 hown hK hP 0 rfl rfl 1 (by decide) L18 (fun _ h9 => h9) rfl dX1_measure_157 ?_
    refine lv_lconst (v := 1) hx hb dX1_measure_160 (by decide) ?_
    refine va_put (D := D) (ci := 0) (v := .long 1) (ty := .long) (C := RX0) (T := TX0) (N := 4) hx hb hts N0 tyX0 tyX0_ok nmX0 hown hK hP hD hS 2 rfl rfl 1 (by decide) L99 (fun _ h9 => h9) rfl (by decide +kernel) rfl rfl (Nat.le_of_ble_eq_true rfl) dX1_measure_161 (fun H locs hP hD hS => ?_)
    have hP : va_P D vwCl [(hF, .inr (1, [.ref cF, .ref aF, .ref wF])), (cF, .inl (cI, 39, .inl f)), (aF, .inr (0, [.long 0, .long 1, .long t3, .long t4]))] H := hP
    have hD : va_D A [(hF, .inr (1, [.ref cF, .ref aF, .ref wF])), (cF, .inl (cI, 39, .inl f)), (aF, .inr (0, [.long 0, .long 1, .long t3, .long t4]))] := hD
    refine lv_aload_n hx hb dX1_measure_164 rfl (lv_at hl 7 rfl) ?_
    refine va_get (D := D) (ci := 1) (v := .ref aF) (C := RX1) (T := TX1) (N := 3) hx hb hts N1 hown hK hP 0 rfl rfl 1 (by decide) L18 (fun _ h9 => h9) rfl dX1_measure_165 ?_
    refine lv_lload hx hb dX1_measure_168 (lv_at hl 4 rfl) ?_
    refine lv_lload hx hb dX1_measure_170 (lv_at hl 4 rfl) ?_
    refine lv_lmul hx hb dX1_measure_172 ?_
    refine lv_lload hx hb dX1_measure_173 (lv_at hl 3 rfl) ?_
    refine lv_lload hx hb dX1_measure_175 (lv_at hl 3 rfl) ?_
    refine lv_lmul hx hb dX1_measure_177 ?_
    refine lv_ladd hx hb dX1_measure_178 ?_
    refine va_put (D := D) (ci := 0) (v := .long ((rx * rx) + (ry * ry))) (ty := .long) (C := RX0) (T := TX0) (N := 4) hx hb hts N0 tyX0 tyX0_ok nmX0 hown hK hP hD hS 2 rfl rfl 2 (by decide) L102 (fun _ h9 => h9) rfl (by decide +kernel) rfl rfl (Nat.le_of_ble_eq_true rfl) dX1_measure_179 (fun H locs hP hD hS => ?_)
    have hP : va_P D vwCl [(hF, .inr (1, [.ref cF, .ref aF, .ref wF])), (cF, .inl (cI, 39, .inl f)), (aF, .inr (0, [.long 0, .long 1, .long ((rx * rx) + (ry * ry)), .long t4]))] H := hP
    have hD : va_D A [(hF, .inr (1, [.ref cF, .ref aF, .ref wF])), (cF, .inl (cI, 39, .inl f)), (aF, .inr (0, [.long 0, .long 1, .long ((rx * rx) + (ry * ry)), .long t4]))] := hD
    refine lv_aload_n hx hb dX1_measure_182 rfl (lv_at hl 7 rfl) ?_
    refine va_get (D := D) (ci := 1) (v := .ref aF) (C := RX1) (T := TX1) (N := 3) hx hb hts N1 hown hK hP 0 rfl rfl 1 (by decide) L18 (fun _ h9 => h9) rfl dX1_measure_183 ?_
    refine lv_lconst (v := 1) hx hb dX1_measure_186 (by decide) ?_
    refine va_put (D := D) (ci := 0) (v := .long 1) (ty := .long) (C := RX0) (T := TX0) (N := 4) hx hb hts N0 tyX0 tyX0_ok nmX0 hown hK hP hD hS 2 rfl rfl 3 (by decide) L105 (fun _ h9 => h9) rfl (by decide +kernel) rfl rfl (Nat.le_of_ble_eq_true rfl) dX1_measure_187 (fun H locs hP hD hS => ?_)
    have hP : va_P D vwCl [(hF, .inr (1, [.ref cF, .ref aF, .ref wF])), (cF, .inl (cI, 39, .inl f)), (aF, .inr (0, [.long 0, .long 1, .long ((rx * rx) + (ry * ry)), .long 1]))] H := hP
    have hD : va_D A [(hF, .inr (1, [.ref cF, .ref aF, .ref wF])), (cF, .inl (cI, 39, .inl f)), (aF, .inr (0, [.long 0, .long 1, .long ((rx * rx) + (ry * ry)), .long 1]))] := hD
    exact hQ (0, 1, (rx * rx) + (ry * ry), 1) _ _ _ _ (by rw [hms]; simp [c_1]) hP hD hS dX1_measure_190

set_option maxHeartbeats 4000000 in
set_option maxRecDepth 100000 in
theorem kX1_haveRisk (l : Launch) (D : va_G) (cI cB : ClassId) (tE tN : Nat) (hF : Nat) (cF : Nat) (aF : Nat) (wF : Nat) (f : Nat → Int32) (t1 : Int64) (t2 : Int64) (t3 : Int64) (t4 : Int64) (ia : Nat) (ib : Nat) (sz : Nat) (ha : ia ≤ 6) (hb6 : ib ≤ 6) : zI l yX1_haveRisk wsX1_haveRisk ({ frames := 1, cells := 0, slots := 0, locals := 38 }) D cI cB tE tN [.ref hF, .int (nI ia), .int (nI ib)] [(hF, .inr (1, [.ref cF, .ref aF, .ref wF])), (cF, .inl (cI, 39, .inl f)), (aF, .inr (0, [.long t1, .long t2, .long t3, .long t4]))] sz (fun u : Int64 × Int64 × Int64 × Int64 => [(hF, .inr (1, [.ref cF, .ref aF, .ref wF])), (cF, .inl (cI, 39, .inl f)), (aF, .inr (0, [.long u.1, .long u.2.1, .long u.2.2.1, .long u.2.2.2]))]) (fun (r : Int32) (u : Int64 × Int64 × Int64 × Int64) => r = b2i (cHR f ia ib) ∧ ((u.1, u.2.1, u.2.2.1, u.2.2.2) = cMh f ia ib)) 0 0 := by
  refine zI_mk (cc := cX1_haveRisk) (maxL := 3) (rt := .boolean) (by decide) rfl (Nat.le_of_ble_eq_true rfl) ?_
  intro p e s m below meth c A Q ls S0 hname hA hK hP hD hT hS hQ hl
  obtain ⟨hx, hb, hml, hown, hts⟩ := id S0
  have hl : lv_has ls 3 [(0, .ref hF), (1, .int (nI ia)), (2, .int (nI ib))] := hl
  have L11 : (Cond.fieldLink RX1 11 "PastAndClear$Fleet" "cells" "[I").before ([.ref hF, .int (nI ia), .int (nI ib)] : List Value).toArray s = true := hts (.fieldLink RX1 11 "PastAndClear$Fleet" "cells" "[I") (by decide +kernel)
  have N1 : ∀ w ∈ u_ws RX1 TX1 3, w ∈ wsX1_haveRisk := by decide +kernel
  have L18 : (Cond.fieldLink RX1 18 "PastAndClear$Fleet" "approach" "LPastAndClear$Approach;").before ([.ref hF, .int (nI ia), .int (nI ib)] : List Value).toArray s = true := hts (.fieldLink RX1 18 "PastAndClear$Fleet" "approach" "LPastAndClear$Approach;") (by decide +kernel)
  refine lv_aload_n hx hb dX1_haveRisk_0 rfl (lv_at hl 0 rfl) ?_
  refine lv_iload_n hx hb dX1_haveRisk_1 rfl (lv_at hl 1 rfl) ?_
  refine lv_aload_n hx hb dX1_haveRisk_2 rfl (lv_at hl 0 rfl) ?_
  refine va_get (D := D) (ci := 1) (v := .ref cF) (C := RX1) (T := TX1) (N := 3) hx hb hts N1 hown hK hP 0 rfl rfl 0 (by decide) L11 (fun _ h9 => h9) rfl dX1_haveRisk_3 ?_
  refine lv_iconst (v := 5) hx hb dX1_haveRisk_6 (by decide) ?_
  refine lv_iload_n hx hb dX1_haveRisk_7 rfl (lv_at hl 1 rfl) ?_
  refine lv_imul hx hb dX1_haveRisk_8 ?_
  refine lv_iconst (v := 2) hx hb dX1_haveRisk_9 (by decide) ?_
  refine lv_iadd hx hb dX1_haveRisk_10 ?_
  refine z_ild (v := f ((5 * ia) + 2)) (j := (5 * ia) + 2) hx hb hK hP 1 rfl (z_add (z_mul rfl rfl) rfl) (by omega) (by decide) (rfl) dX1_haveRisk_11 ?_
  refine lv_aload_n hx hb dX1_haveRisk_12 rfl (lv_at hl 0 rfl) ?_
  refine va_get (D := D) (ci := 1) (v := .ref cF) (C := RX1) (T := TX1) (N := 3) hx hb hts N1 hown hK hP 0 rfl rfl 0 (by decide) L11 (fun _ h9 => h9) rfl dX1_haveRisk_13 ?_
  refine lv_iconst (v := 5) hx hb dX1_haveRisk_16 (by decide) ?_
  refine lv_iload_n hx hb dX1_haveRisk_17 rfl (lv_at hl 1 rfl) ?_
  refine lv_imul hx hb dX1_haveRisk_18 ?_
  refine lv_iconst (v := 3) hx hb dX1_haveRisk_19 (by decide) ?_
  refine lv_iadd hx hb dX1_haveRisk_20 ?_
  refine z_ild (v := f ((5 * ia) + 3)) (j := (5 * ia) + 3) hx hb hK hP 1 rfl (z_add (z_mul rfl rfl) rfl) (by omega) (by decide) (rfl) dX1_haveRisk_21 ?_
  refine lv_iload_n hx hb dX1_haveRisk_22 rfl (lv_at hl 2 rfl) ?_
  refine z_VV (n := 4) (wn := (fun u : Int64 × Int64 × Int64 × Int64 => [(hF, .inr (1, [.ref cF, .ref aF, .ref wF])), (cF, .inl (cI, 39, .inl f)), (aF, .inr (0, [.long u.1, .long u.2.1, .long u.2.2.1, .long u.2.2.2]))])) (wr := []) (As := [.int (nI ia), .int (f ((5 * ia) + 2)), .int (f ((5 * ia) + 3)), .int (nI ib)]) (rest := []) ⟨hx, hb, hml, hown, hts⟩ hK hP hD hS hA hT (kX1_measure l D cI cB tE tN hF cF aF wF f t1 t2 t3 t4 ia ib (f ((5 * ia) + 2)) (f ((5 * ia) + 3)) _ (by omega) (by omega)) gX1_haveRisk_X1_measure rfl rfl rfl (by decide +kernel) ⟨Nat.le_of_ble_eq_true rfl, Nat.le_of_ble_eq_true rfl⟩ [0, 1, 2] [] [0, 1, 2] (by decide) rfl rfl (by decide) (by decide) (by decide) (fun u => rfl) 0 1 rfl rfl rfl rfl hl.1 rfl (Nat.le_of_ble_eq_true rfl) dX1_haveRisk_23 ⟨Nat.le_of_ble_eq_true rfl, Nat.le_of_ble_eq_true rfl⟩ (fun u H locs hw_6 hP hD hS => ?_)
  obtain ⟨b1_1, b2_2, b3_3, b4_4⟩ := u
  try dsimp only at hw_6
  have hP : va_P D vwCl [(hF, .inr (1, [.ref cF, .ref aF, .ref wF])), (cF, .inl (cI, 39, .inl f)), (aF, .inr (0, [.long b1_1, .long b2_2, .long b3_3, .long b4_4]))] H := hP
  have hD : va_D A [(hF, .inr (1, [.ref cF, .ref aF, .ref wF])), (cF, .inl (cI, 39, .inl f)), (aF, .inr (0, [.long b1_1, .long b2_2, .long b3_3, .long b4_4]))] := hD
  have hm := hw_6
  refine lv_aload_n hx hb dX1_haveRisk_26 rfl (lv_at hl 0 rfl) ?_
  refine va_get (D := D) (ci := 1) (v := .ref aF) (C := RX1) (T := TX1) (N := 3) hx hb hts N1 hown hK hP 0 rfl rfl 1 (by decide) L18 (fun _ h9 => h9) rfl dX1_haveRisk_27 ?_
  refine lv_aload_n hx hb dX1_haveRisk_30 rfl (lv_at hl 0 rfl) ?_
  refine va_get (D := D) (ci := 1) (v := .ref cF) (C := RX1) (T := TX1) (N := 3) hx hb hts N1 hown hK hP 0 rfl rfl 0 (by decide) L11 (fun _ h9 => h9) rfl dX1_haveRisk_31 ?_
  refine lv_bipush (v := 36) hx hb dX1_haveRisk_34 (by decide) ?_
  refine z_ild (v := f 36) (j := 36) hx hb hK hP 1 rfl rfl (by omega) (by decide) (rfl) dX1_haveRisk_36 ?_
  refine lv_i2l (v := (f 36).toInt64) hx hb dX1_haveRisk_37 rfl ?_
  refine lv_aload_n hx hb dX1_haveRisk_38 rfl (lv_at hl 0 rfl) ?_
  refine va_get (D := D) (ci := 1) (v := .ref cF) (C := RX1) (T := TX1) (N := 3) hx hb hts N1 hown hK hP 0 rfl rfl 0 (by decide) L11 (fun _ h9 => h9) rfl dX1_haveRisk_39 ?_
  refine lv_bipush (v := 37) hx hb dX1_haveRisk_42 (by decide) ?_
  refine z_ild (v := f 37) (j := 37) hx hb hK hP 1 rfl rfl (by omega) (by decide) (rfl) dX1_haveRisk_44 ?_
  refine lv_i2l (v := (f 37).toInt64) hx hb dX1_haveRisk_45 rfl ?_
  refine z_VI (n := 2) (wn := (fun u : Unit => [(hF, .inr (1, [.ref cF, .ref aF, .ref wF])), (cF, .inl (cI, 39, .inl f)), (aF, .inr (0, [.long b1_1, .long b2_2, .long b3_3, .long b4_4]))])) (wr := [(hF, .inr (1, [.ref cF, .ref aF, .ref wF])), (cF, .inl (cI, 39, .inl f))]) (As := [.long ((f 36).toInt64), .long ((f 37).toInt64)]) (rest := []) ⟨hx, hb, hml, hown, hts⟩ hK hP hD hS hA hT (kX0_isRisk l D cI cB tE tN aF b1_1 b2_2 b3_3 b4_4 ((f 36).toInt64) ((f 37).toInt64) _ ) gX1_haveRisk_X0_isRisk rfl rfl rfl (by decide +kernel) ⟨Nat.le_of_ble_eq_true rfl, Nat.le_of_ble_eq_true rfl⟩ [2] [0, 1] [0, 1, 2] (by decide) rfl rfl (by decide) (by decide) (by decide) (fun u => rfl) 0 0 rfl rfl rfl rfl hl.1 rfl (Nat.le_of_ble_eq_true rfl) dX1_haveRisk_46 ⟨Nat.le_of_ble_eq_true rfl, Nat.le_of_ble_eq_true rfl⟩ (fun r_7 u H locs hw_8 hP hD hS => ?_)
  try dsimp only at hw_8
  have hP : va_P D vwCl [(hF, .inr (1, [.ref cF, .ref aF, .ref wF])), (cF, .inl (cI, 39, .inl f)), (aF, .inr (0, [.long b1_1, .long b2_2, .long b3_3, .long b4_4]))] H := hP
  have hD : va_D A [(hF, .inr (1, [.ref cF, .ref aF, .ref wF])), (cF, .inl (cI, 39, .inl f)), (aF, .inr (0, [.long b1_1, .long b2_2, .long b3_3, .long b4_4]))] := hD
  subst r_7
  exact hQ (b2i (cRk b1_1 b2_2 b3_3 b4_4 ((f 36).toInt64) ((f 37).toInt64))) (b1_1, b2_2, b3_3, b4_4) _ _ _ _ (z_nb _) (⟨by rw [cHR, cWR, ← hm], hm⟩) hP hD hS dX1_haveRisk_49

set_option maxHeartbeats 4000000 in
set_option maxRecDepth 100000 in
theorem kX1_wouldRisk (l : Launch) (D : va_G) (cI cB : ClassId) (tE tN : Nat) (hF : Nat) (cF : Nat) (aF : Nat) (wF : Nat) (f : Nat → Int32) (t1 : Int64) (t2 : Int64) (t3 : Int64) (t4 : Int64) (ia : Nat) (ib : Nat) (ph : Int32) (ps : Int32) (sz : Nat) (ha : ia ≤ 6) (hb6 : ib ≤ 6) : zI l yX1_wouldRisk wsX1_wouldRisk ({ frames := 1, cells := 0, slots := 0, locals := 38 }) D cI cB tE tN [.ref hF, .int (nI ia), .int ph, .int ps, .int (nI ib)] [(hF, .inr (1, [.ref cF, .ref aF, .ref wF])), (cF, .inl (cI, 39, .inl f)), (aF, .inr (0, [.long t1, .long t2, .long t3, .long t4]))] sz (fun u : Int64 × Int64 × Int64 × Int64 => [(hF, .inr (1, [.ref cF, .ref aF, .ref wF])), (cF, .inl (cI, 39, .inl f)), (aF, .inr (0, [.long u.1, .long u.2.1, .long u.2.2.1, .long u.2.2.2]))]) (fun (r : Int32) (u : Int64 × Int64 × Int64 × Int64) => r = b2i (cWR f ia ph ps ib)) 0 0 := by
  refine zI_mk (cc := cX1_wouldRisk) (maxL := 5) (rt := .boolean) (by decide) rfl (Nat.le_of_ble_eq_true rfl) ?_
  intro p e s m below meth c A Q ls S0 hname hA hK hP hD hT hS hQ hl
  obtain ⟨hx, hb, hml, hown, hts⟩ := id S0
  have hl : lv_has ls 5 [(0, .ref hF), (1, .int (nI ia)), (2, .int ph), (3, .int ps), (4, .int (nI ib))] := hl
  have L18 : (Cond.fieldLink RX1 18 "PastAndClear$Fleet" "approach" "LPastAndClear$Approach;").before ([.ref hF, .int (nI ia), .int ph, .int ps, .int (nI ib)] : List Value).toArray s = true := hts (.fieldLink RX1 18 "PastAndClear$Fleet" "approach" "LPastAndClear$Approach;") (by decide +kernel)
  have N1 : ∀ w ∈ u_ws RX1 TX1 3, w ∈ wsX1_wouldRisk := by decide +kernel
  have L11 : (Cond.fieldLink RX1 11 "PastAndClear$Fleet" "cells" "[I").before ([.ref hF, .int (nI ia), .int ph, .int ps, .int (nI ib)] : List Value).toArray s = true := hts (.fieldLink RX1 11 "PastAndClear$Fleet" "cells" "[I") (by decide +kernel)
  refine lv_aload_n hx hb dX1_wouldRisk_0 rfl (lv_at hl 0 rfl) ?_
  refine lv_iload_n hx hb dX1_wouldRisk_1 rfl (lv_at hl 1 rfl) ?_
  refine lv_iload_n hx hb dX1_wouldRisk_2 rfl (lv_at hl 2 rfl) ?_
  refine lv_iload_n hx hb dX1_wouldRisk_3 rfl (lv_at hl 3 rfl) ?_
  refine lv_iload hx hb dX1_wouldRisk_4 (lv_at hl 4 rfl) ?_
  refine z_VV (n := 4) (wn := (fun u : Int64 × Int64 × Int64 × Int64 => [(hF, .inr (1, [.ref cF, .ref aF, .ref wF])), (cF, .inl (cI, 39, .inl f)), (aF, .inr (0, [.long u.1, .long u.2.1, .long u.2.2.1, .long u.2.2.2]))])) (wr := []) (As := [.int (nI ia), .int ph, .int ps, .int (nI ib)]) (rest := []) ⟨hx, hb, hml, hown, hts⟩ hK hP hD hS hA hT (kX1_measure l D cI cB tE tN hF cF aF wF f t1 t2 t3 t4 ia ib ph ps _ (by omega) (by omega)) gX1_wouldRisk_X1_measure rfl rfl rfl (by decide +kernel) ⟨Nat.le_of_ble_eq_true rfl, Nat.le_of_ble_eq_true rfl⟩ [0, 1, 2] [] [0, 1, 2] (by decide) rfl rfl (by decide) (by decide) (by decide) (fun u => rfl) 0 1 rfl rfl rfl rfl hl.1 rfl (Nat.le_of_ble_eq_true rfl) dX1_wouldRisk_6 ⟨Nat.le_of_ble_eq_true rfl, Nat.le_of_ble_eq_true rfl⟩ (fun u H locs hw_6 hP hD hS => ?_)
  obtain ⟨b1_1, b2_2, b3_3, b4_4⟩ := u
  try dsimp only at hw_6
  have hP : va_P D vwCl [(hF, .inr (1, [.ref cF, .ref aF, .ref wF])), (cF, .inl (cI, 39, .inl f)), (aF, .inr (0, [.long b1_1, .long b2_2, .long b3_3, .long b4_4]))] H := hP
  have hD : va_D A [(hF, .inr (1, [.ref cF, .ref aF, .ref wF])), (cF, .inl (cI, 39, .inl f)), (aF, .inr (0, [.long b1_1, .long b2_2, .long b3_3, .long b4_4]))] := hD
  have hm := hw_6
  refine lv_aload_n hx hb dX1_wouldRisk_9 rfl (lv_at hl 0 rfl) ?_
  refine va_get (D := D) (ci := 1) (v := .ref aF) (C := RX1) (T := TX1) (N := 3) hx hb hts N1 hown hK hP 0 rfl rfl 1 (by decide) L18 (fun _ h9 => h9) rfl dX1_wouldRisk_10 ?_
  refine lv_aload_n hx hb dX1_wouldRisk_13 rfl (lv_at hl 0 rfl) ?_
  refine va_get (D := D) (ci := 1) (v := .ref cF) (C := RX1) (T := TX1) (N := 3) hx hb hts N1 hown hK hP 0 rfl rfl 0 (by decide) L11 (fun _ h9 => h9) rfl dX1_wouldRisk_14 ?_
  refine lv_bipush (v := 36) hx hb dX1_wouldRisk_17 (by decide) ?_
  refine z_ild (v := f 36) (j := 36) hx hb hK hP 1 rfl rfl (by omega) (by decide) (rfl) dX1_wouldRisk_19 ?_
  refine lv_i2l (v := (f 36).toInt64) hx hb dX1_wouldRisk_20 rfl ?_
  refine lv_aload_n hx hb dX1_wouldRisk_21 rfl (lv_at hl 0 rfl) ?_
  refine va_get (D := D) (ci := 1) (v := .ref cF) (C := RX1) (T := TX1) (N := 3) hx hb hts N1 hown hK hP 0 rfl rfl 0 (by decide) L11 (fun _ h9 => h9) rfl dX1_wouldRisk_22 ?_
  refine lv_bipush (v := 37) hx hb dX1_wouldRisk_25 (by decide) ?_
  refine z_ild (v := f 37) (j := 37) hx hb hK hP 1 rfl rfl (by omega) (by decide) (rfl) dX1_wouldRisk_27 ?_
  refine lv_i2l (v := (f 37).toInt64) hx hb dX1_wouldRisk_28 rfl ?_
  refine z_VI (n := 2) (wn := (fun u : Unit => [(hF, .inr (1, [.ref cF, .ref aF, .ref wF])), (cF, .inl (cI, 39, .inl f)), (aF, .inr (0, [.long b1_1, .long b2_2, .long b3_3, .long b4_4]))])) (wr := [(hF, .inr (1, [.ref cF, .ref aF, .ref wF])), (cF, .inl (cI, 39, .inl f))]) (As := [.long ((f 36).toInt64), .long ((f 37).toInt64)]) (rest := []) ⟨hx, hb, hml, hown, hts⟩ hK hP hD hS hA hT (kX0_isRisk l D cI cB tE tN aF b1_1 b2_2 b3_3 b4_4 ((f 36).toInt64) ((f 37).toInt64) _ ) gX1_wouldRisk_X0_isRisk rfl rfl rfl (by decide +kernel) ⟨Nat.le_of_ble_eq_true rfl, Nat.le_of_ble_eq_true rfl⟩ [2] [0, 1] [0, 1, 2] (by decide) rfl rfl (by decide) (by decide) (by decide) (fun u => rfl) 0 0 rfl rfl rfl rfl hl.1 rfl (Nat.le_of_ble_eq_true rfl) dX1_wouldRisk_29 ⟨Nat.le_of_ble_eq_true rfl, Nat.le_of_ble_eq_true rfl⟩ (fun r_7 u H locs hw_8 hP hD hS => ?_)
  try dsimp only at hw_8
  have hP : va_P D vwCl [(hF, .inr (1, [.ref cF, .ref aF, .ref wF])), (cF, .inl (cI, 39, .inl f)), (aF, .inr (0, [.long b1_1, .long b2_2, .long b3_3, .long b4_4]))] H := hP
  have hD : va_D A [(hF, .inr (1, [.ref cF, .ref aF, .ref wF])), (cF, .inl (cI, 39, .inl f)), (aF, .inr (0, [.long b1_1, .long b2_2, .long b3_3, .long b4_4]))] := hD
  subst r_7
  exact hQ (b2i (cRk b1_1 b2_2 b3_3 b4_4 ((f 36).toInt64) ((f 37).toInt64))) (b1_1, b2_2, b3_3, b4_4) _ _ _ _ (z_nb _) (by rw [cWR, ← hm]) hP hD hS dX1_wouldRisk_32

set_option maxHeartbeats 4000000 in
set_option maxRecDepth 100000 in
theorem kX1_approachOf (l : Launch) (D : va_G) (cI cB : ClassId) (tE tN : Nat) (hF : Nat) (cF : Nat) (aF : Nat) (wF : Nat) (f : Nat → Int32) (t1 : Int64) (t2 : Int64) (t3 : Int64) (t4 : Int64) (ia : Nat) (ib : Nat) (sz : Nat) (ha : ia ≤ 6) (hb6 : ib ≤ 6) : zR l yX1_approachOf wsX1_approachOf ({ frames := 1, cells := 0, slots := 0, locals := 38 }) D cI cB tE tN [.ref hF, .int (nI ia), .int (nI ib)] [(hF, .inr (1, [.ref cF, .ref aF, .ref wF])), (cF, .inl (cI, 39, .inl f)), (aF, .inr (0, [.long t1, .long t2, .long t3, .long t4]))] sz (fun u : Int64 × Int64 × Int64 × Int64 => [(hF, .inr (1, [.ref cF, .ref aF, .ref wF])), (cF, .inl (cI, 39, .inl f)), (aF, .inr (0, [.long u.1, .long u.2.1, .long u.2.2.1, .long u.2.2.2]))]) (fun (r : Nat) (u : Int64 × Int64 × Int64 × Int64) => r = aF ∧ ((u.1, u.2.1, u.2.2.1, u.2.2.2) = cMh f ia ib)) 0 0 := by
  refine zR_mk (cc := cX1_approachOf) (maxL := 3) (rt := "PastAndClear$Approach") (by decide) rfl (Nat.le_of_ble_eq_true rfl) ?_
  intro p e s m below meth c A Q ls S0 hname hA hK hP hD hT hS hQ hl
  obtain ⟨hx, hb, hml, hown, hts⟩ := id S0
  have hl : lv_has ls 3 [(0, .ref hF), (1, .int (nI ia)), (2, .int (nI ib))] := hl
  have L11 : (Cond.fieldLink RX1 11 "PastAndClear$Fleet" "cells" "[I").before ([.ref hF, .int (nI ia), .int (nI ib)] : List Value).toArray s = true := hts (.fieldLink RX1 11 "PastAndClear$Fleet" "cells" "[I") (by decide +kernel)
  have N1 : ∀ w ∈ u_ws RX1 TX1 3, w ∈ wsX1_approachOf := by decide +kernel
  have L18 : (Cond.fieldLink RX1 18 "PastAndClear$Fleet" "approach" "LPastAndClear$Approach;").before ([.ref hF, .int (nI ia), .int (nI ib)] : List Value).toArray s = true := hts (.fieldLink RX1 18 "PastAndClear$Fleet" "approach" "LPastAndClear$Approach;") (by decide +kernel)
  refine lv_aload_n hx hb dX1_approachOf_0 rfl (lv_at hl 0 rfl) ?_
  refine lv_iload_n hx hb dX1_approachOf_1 rfl (lv_at hl 1 rfl) ?_
  refine lv_aload_n hx hb dX1_approachOf_2 rfl (lv_at hl 0 rfl) ?_
  refine va_get (D := D) (ci := 1) (v := .ref cF) (C := RX1) (T := TX1) (N := 3) hx hb hts N1 hown hK hP 0 rfl rfl 0 (by decide) L11 (fun _ h9 => h9) rfl dX1_approachOf_3 ?_
  refine lv_iconst (v := 5) hx hb dX1_approachOf_6 (by decide) ?_
  refine lv_iload_n hx hb dX1_approachOf_7 rfl (lv_at hl 1 rfl) ?_
  refine lv_imul hx hb dX1_approachOf_8 ?_
  refine lv_iconst (v := 2) hx hb dX1_approachOf_9 (by decide) ?_
  refine lv_iadd hx hb dX1_approachOf_10 ?_
  refine z_ild (v := f ((5 * ia) + 2)) (j := (5 * ia) + 2) hx hb hK hP 1 rfl (z_add (z_mul rfl rfl) rfl) (by omega) (by decide) (rfl) dX1_approachOf_11 ?_
  refine lv_aload_n hx hb dX1_approachOf_12 rfl (lv_at hl 0 rfl) ?_
  refine va_get (D := D) (ci := 1) (v := .ref cF) (C := RX1) (T := TX1) (N := 3) hx hb hts N1 hown hK hP 0 rfl rfl 0 (by decide) L11 (fun _ h9 => h9) rfl dX1_approachOf_13 ?_
  refine lv_iconst (v := 5) hx hb dX1_approachOf_16 (by decide) ?_
  refine lv_iload_n hx hb dX1_approachOf_17 rfl (lv_at hl 1 rfl) ?_
  refine lv_imul hx hb dX1_approachOf_18 ?_
  refine lv_iconst (v := 3) hx hb dX1_approachOf_19 (by decide) ?_
  refine lv_iadd hx hb dX1_approachOf_20 ?_
  refine z_ild (v := f ((5 * ia) + 3)) (j := (5 * ia) + 3) hx hb hK hP 1 rfl (z_add (z_mul rfl rfl) rfl) (by omega) (by decide) (rfl) dX1_approachOf_21 ?_
  refine lv_iload_n hx hb dX1_approachOf_22 rfl (lv_at hl 2 rfl) ?_
  refine z_VV (n := 4) (wn := (fun u : Int64 × Int64 × Int64 × Int64 => [(hF, .inr (1, [.ref cF, .ref aF, .ref wF])), (cF, .inl (cI, 39, .inl f)), (aF, .inr (0, [.long u.1, .long u.2.1, .long u.2.2.1, .long u.2.2.2]))])) (wr := []) (As := [.int (nI ia), .int (f ((5 * ia) + 2)), .int (f ((5 * ia) + 3)), .int (nI ib)]) (rest := []) ⟨hx, hb, hml, hown, hts⟩ hK hP hD hS hA hT (kX1_measure l D cI cB tE tN hF cF aF wF f t1 t2 t3 t4 ia ib (f ((5 * ia) + 2)) (f ((5 * ia) + 3)) _ (by omega) (by omega)) gX1_approachOf_X1_measure rfl rfl rfl (by decide +kernel) ⟨Nat.le_of_ble_eq_true rfl, Nat.le_of_ble_eq_true rfl⟩ [0, 1, 2] [] [0, 1, 2] (by decide) rfl rfl (by decide) (by decide) (by decide) (fun u => rfl) 0 1 rfl rfl rfl rfl hl.1 rfl (Nat.le_of_ble_eq_true rfl) dX1_approachOf_23 ⟨Nat.le_of_ble_eq_true rfl, Nat.le_of_ble_eq_true rfl⟩ (fun u H locs hw_6 hP hD hS => ?_)
  obtain ⟨b1_1, b2_2, b3_3, b4_4⟩ := u
  try dsimp only at hw_6
  have hP : va_P D vwCl [(hF, .inr (1, [.ref cF, .ref aF, .ref wF])), (cF, .inl (cI, 39, .inl f)), (aF, .inr (0, [.long b1_1, .long b2_2, .long b3_3, .long b4_4]))] H := hP
  have hD : va_D A [(hF, .inr (1, [.ref cF, .ref aF, .ref wF])), (cF, .inl (cI, 39, .inl f)), (aF, .inr (0, [.long b1_1, .long b2_2, .long b3_3, .long b4_4]))] := hD
  have hm := hw_6
  refine lv_aload_n hx hb dX1_approachOf_26 rfl (lv_at hl 0 rfl) ?_
  refine va_get (D := D) (ci := 1) (v := .ref aF) (C := RX1) (T := TX1) (N := 3) hx hb hts N1 hown hK hP 0 rfl rfl 1 (by decide) L18 (fun _ h9 => h9) rfl dX1_approachOf_27 ?_
  exact hQ aF (b1_1, b2_2, b3_3, b4_4) _ _ _ _ (⟨rfl, hm⟩) hP hD hS dX1_approachOf_30

set_option maxHeartbeats 4000000 in
set_option maxRecDepth 100000 in
theorem kX1_sectorOf (l : Launch) (D : va_G) (cI cB : ClassId) (tE tN : Nat) (hF : Nat) (cF : Nat) (aF : Nat) (wF : Nat) (f : Nat → Int32) (ia : Nat) (ib : Nat) (sz : Nat) (ha : ia ≤ 6) (hb6 : ib ≤ 6) : zI l yX1_sectorOf wsX1_sectorOf ({ frames := 1, cells := 0, slots := 0, locals := 14 }) D cI cB tE tN [.ref hF, .int (nI ia), .int (nI ib)] [(hF, .inr (1, [.ref cF, .ref aF, .ref wF])), (cF, .inl (cI, 39, .inl f))] sz (fun u : Unit => [(hF, .inr (1, [.ref cF, .ref aF, .ref wF])), (cF, .inl (cI, 39, .inl f))]) (fun (r : Int32) (u : Unit) => r = cSec f ia ib) 0 0 := by
  refine zI_mk (cc := cX1_sectorOf) (maxL := 9) (rt := .int) (by decide) rfl (Nat.le_of_ble_eq_true rfl) ?_
  intro p e s m below meth c A Q ls S0 hname hA hK hP hD hT hS hQ hl
  obtain ⟨hx, hb, hml, hown, hts⟩ := id S0
  have hl : lv_has ls 9 [(0, .ref hF), (1, .int (nI ia)), (2, .int (nI ib))] := hl
  have L36 : (Cond.fieldLink RX1 36 "PastAndClear$Fleet" "EAST" "[I").before ([.ref hF, .int (nI ia), .int (nI ib)] : List Value).toArray s = true := hts (.fieldLink RX1 36 "PastAndClear$Fleet" "EAST" "[I") (by decide +kernel)
  have L11 : (Cond.fieldLink RX1 11 "PastAndClear$Fleet" "cells" "[I").before ([.ref hF, .int (nI ia), .int (nI ib)] : List Value).toArray s = true := hts (.fieldLink RX1 11 "PastAndClear$Fleet" "cells" "[I") (by decide +kernel)
  have N1 : ∀ w ∈ u_ws RX1 TX1 3, w ∈ wsX1_sectorOf := by decide +kernel
  have L39 : (Cond.fieldLink RX1 39 "PastAndClear$Fleet" "NORTH" "[I").before ([.ref hF, .int (nI ia), .int (nI ib)] : List Value).toArray s = true := hts (.fieldLink RX1 39 "PastAndClear$Fleet" "NORTH" "[I") (by decide +kernel)
  refine va_gets hx hb hT.1.1 hS hown L36 (fun _ h9 => h9) dX1_sectorOf_0 ?_
  refine lv_aload_n hx hb dX1_sectorOf_3 rfl (lv_at hl 0 rfl) ?_
  refine va_get (D := D) (ci := 1) (v := .ref cF) (C := RX1) (T := TX1) (N := 3) hx hb hts N1 hown hK hP 0 rfl rfl 0 (by decide) L11 (fun _ h9 => h9) rfl dX1_sectorOf_4 ?_
  refine lv_iconst (v := 5) hx hb dX1_sectorOf_7 (by decide) ?_
  refine lv_iload_n hx hb dX1_sectorOf_8 rfl (lv_at hl 1 rfl) ?_
  refine lv_imul hx hb dX1_sectorOf_9 ?_
  refine lv_iconst (v := 2) hx hb dX1_sectorOf_10 (by decide) ?_
  refine lv_iadd hx hb dX1_sectorOf_11 ?_
  refine z_ild (v := f ((5 * ia) + 2)) (j := (5 * ia) + 2) hx hb hK hP 1 rfl (z_add (z_mul rfl rfl) rfl) (by omega) (by decide) (rfl) dX1_sectorOf_12 ?_
  refine lv_bipush (v := 15) hx hb dX1_sectorOf_13 (by decide) ?_
  refine lv_iand hx hb dX1_sectorOf_15 ?_
  refine va_ti (v := .int (eE ((f ((5 * ia) + 2)) &&& 15).toNatClampNeg)) hx hb hT.1.2 hS (z_and15 _) rfl dX1_sectorOf_16 ?_
  refine lv_topi (fun ux eux => ?_)
  refine lv_istore_n (lv' := [(3, .int ux), (0, .ref hF), (1, .int (nI ia)), (2, .int (nI ib))]) hx hb dX1_sectorOf_17 rfl hl (by decide) rfl (fun ls hl => ?_)
  refine va_gets hx hb hT.2.1.1 hS hown L39 (fun _ h9 => h9) dX1_sectorOf_18 ?_
  refine lv_aload_n hx hb dX1_sectorOf_21 rfl (lv_at hl 1 rfl) ?_
  refine va_get (D := D) (ci := 1) (v := .ref cF) (C := RX1) (T := TX1) (N := 3) hx hb hts N1 hown hK hP 0 rfl rfl 0 (by decide) L11 (fun _ h9 => h9) rfl dX1_sectorOf_22 ?_
  refine lv_iconst (v := 5) hx hb dX1_sectorOf_25 (by decide) ?_
  refine lv_iload_n hx hb dX1_sectorOf_26 rfl (lv_at hl 2 rfl) ?_
  refine lv_imul hx hb dX1_sectorOf_27 ?_
  refine lv_iconst (v := 2) hx hb dX1_sectorOf_28 (by decide) ?_
  refine lv_iadd hx hb dX1_sectorOf_29 ?_
  refine z_ild (v := f ((5 * ia) + 2)) (j := (5 * ia) + 2) hx hb hK hP 1 rfl (z_add (z_mul rfl rfl) rfl) (by omega) (by decide) (rfl) dX1_sectorOf_30 ?_
  refine lv_bipush (v := 15) hx hb dX1_sectorOf_31 (by decide) ?_
  refine lv_iand hx hb dX1_sectorOf_33 ?_
  refine va_ti (v := .int (eN ((f ((5 * ia) + 2)) &&& 15).toNatClampNeg)) hx hb hT.2.1.2 hS (z_and15 _) rfl dX1_sectorOf_34 ?_
  refine lv_topi (fun uy euy => ?_)
  refine lv_istore (lv' := [(4, .int uy), (3, .int ux), (0, .ref hF), (1, .int (nI ia)), (2, .int (nI ib))]) hx hb dX1_sectorOf_35 hl (by decide) rfl (fun ls hl => ?_)
  refine lv_aload_n hx hb dX1_sectorOf_37 rfl (lv_at hl 2 rfl) ?_
  refine va_get (D := D) (ci := 1) (v := .ref cF) (C := RX1) (T := TX1) (N := 3) hx hb hts N1 hown hK hP 0 rfl rfl 0 (by decide) L11 (fun _ h9 => h9) rfl dX1_sectorOf_38 ?_
  refine lv_iconst (v := 5) hx hb dX1_sectorOf_41 (by decide) ?_
  refine lv_iload_n hx hb dX1_sectorOf_42 rfl (lv_at hl 4 rfl) ?_
  refine lv_imul hx hb dX1_sectorOf_43 ?_
  refine lv_iconst (v := 0) hx hb dX1_sectorOf_44 (by decide) ?_
  refine lv_iadd hx hb dX1_sectorOf_45 ?_
  refine z_ild (v := f ((5 * ib) + 0)) (j := (5 * ib) + 0) hx hb hK hP 1 rfl (z_add (z_mul rfl rfl) rfl) (by omega) (by decide) (rfl) dX1_sectorOf_46 ?_
  refine lv_aload_n hx hb dX1_sectorOf_47 rfl (lv_at hl 2 rfl) ?_
  refine va_get (D := D) (ci := 1) (v := .ref cF) (C := RX1) (T := TX1) (N := 3) hx hb hts N1 hown hK hP 0 rfl rfl 0 (by decide) L11 (fun _ h9 => h9) rfl dX1_sectorOf_48 ?_
  refine lv_iconst (v := 5) hx hb dX1_sectorOf_51 (by decide) ?_
  refine lv_iload_n hx hb dX1_sectorOf_52 rfl (lv_at hl 3 rfl) ?_
  refine lv_imul hx hb dX1_sectorOf_53 ?_
  refine lv_iconst (v := 0) hx hb dX1_sectorOf_54 (by decide) ?_
  refine lv_iadd hx hb dX1_sectorOf_55 ?_
  refine z_ild (v := f ((5 * ia) + 0)) (j := (5 * ia) + 0) hx hb hK hP 1 rfl (z_add (z_mul rfl rfl) rfl) (by omega) (by decide) (rfl) dX1_sectorOf_56 ?_
  refine lv_isub hx hb dX1_sectorOf_57 ?_
  refine lv_topi (fun rx erx => ?_)
  refine lv_istore (lv' := [(5, .int rx), (4, .int uy), (3, .int ux), (0, .ref hF), (1, .int (nI ia)), (2, .int (nI ib))]) hx hb dX1_sectorOf_58 hl (by decide) rfl (fun ls hl => ?_)
  refine lv_aload_n hx hb dX1_sectorOf_60 rfl (lv_at hl 3 rfl) ?_
  refine va_get (D := D) (ci := 1) (v := .ref cF) (C := RX1) (T := TX1) (N := 3) hx hb hts N1 hown hK hP 0 rfl rfl 0 (by decide) L11 (fun _ h9 => h9) rfl dX1_sectorOf_61 ?_
  refine lv_iconst (v := 5) hx hb dX1_sectorOf_64 (by decide) ?_
  refine lv_iload_n hx hb dX1_sectorOf_65 rfl (lv_at hl 5 rfl) ?_
  refine lv_imul hx hb dX1_sectorOf_66 ?_
  refine lv_iconst (v := 1) hx hb dX1_sectorOf_67 (by decide) ?_
  refine lv_iadd hx hb dX1_sectorOf_68 ?_
  refine z_ild (v := f ((5 * ib) + 1)) (j := (5 * ib) + 1) hx hb hK hP 1 rfl (z_add (z_mul rfl rfl) rfl) (by omega) (by decide) (rfl) dX1_sectorOf_69 ?_
  refine lv_aload_n hx hb dX1_sectorOf_70 rfl (lv_at hl 3 rfl) ?_
  refine va_get (D := D) (ci := 1) (v := .ref cF) (C := RX1) (T := TX1) (N := 3) hx hb hts N1 hown hK hP 0 rfl rfl 0 (by decide) L11 (fun _ h9 => h9) rfl dX1_sectorOf_71 ?_
  refine lv_iconst (v := 5) hx hb dX1_sectorOf_74 (by decide) ?_
  refine lv_iload_n hx hb dX1_sectorOf_75 rfl (lv_at hl 4 rfl) ?_
  refine lv_imul hx hb dX1_sectorOf_76 ?_
  refine lv_iconst (v := 1) hx hb dX1_sectorOf_77 (by decide) ?_
  refine lv_iadd hx hb dX1_sectorOf_78 ?_
  refine z_ild (v := f ((5 * ia) + 1)) (j := (5 * ia) + 1) hx hb hK hP 1 rfl (z_add (z_mul rfl rfl) rfl) (by omega) (by decide) (rfl) dX1_sectorOf_79 ?_
  refine lv_isub hx hb dX1_sectorOf_80 ?_
  refine lv_topi (fun ry ery => ?_)
  refine lv_istore (lv' := [(6, .int ry), (5, .int rx), (4, .int uy), (3, .int ux), (0, .ref hF), (1, .int (nI ia)), (2, .int (nI ib))]) hx hb dX1_sectorOf_81 hl (by decide) rfl (fun ls hl => ?_)
  refine lv_iload_n hx hb dX1_sectorOf_83 rfl (lv_at hl 3 rfl) ?_
  refine lv_iload hx hb dX1_sectorOf_84 (lv_at hl 1 rfl) ?_
  refine lv_imul hx hb dX1_sectorOf_86 ?_
  refine lv_iload hx hb dX1_sectorOf_87 (lv_at hl 2 rfl) ?_
  refine lv_iload hx hb dX1_sectorOf_89 (lv_at hl 0 rfl) ?_
  refine lv_imul hx hb dX1_sectorOf_91 ?_
  refine lv_iadd hx hb dX1_sectorOf_92 ?_
  refine lv_topi (fun pp epp => ?_)
  refine lv_istore (lv' := [(7, .int pp), (6, .int ry), (5, .int rx), (4, .int uy), (3, .int ux), (0, .ref hF), (1, .int (nI ia)), (2, .int (nI ib))]) hx hb dX1_sectorOf_93 hl (by decide) rfl (fun ls hl => ?_)
  refine lv_iload_n hx hb dX1_sectorOf_95 rfl (lv_at hl 4 rfl) ?_
  refine lv_iload hx hb dX1_sectorOf_96 (lv_at hl 1 rfl) ?_
  refine lv_imul hx hb dX1_sectorOf_98 ?_
  refine lv_iload hx hb dX1_sectorOf_99 (lv_at hl 3 rfl) ?_
  refine lv_iload hx hb dX1_sectorOf_101 (lv_at hl 2 rfl) ?_
  refine lv_imul hx hb dX1_sectorOf_103 ?_
  refine lv_isub hx hb dX1_sectorOf_104 ?_
  refine lv_topi (fun qq eqq => ?_)
  refine lv_istore (lv' := [(8, .int qq), (7, .int pp), (6, .int ry), (5, .int rx), (4, .int uy), (3, .int ux), (0, .ref hF), (1, .int (nI ia)), (2, .int (nI ib))]) hx hb dX1_sectorOf_105 hl (by decide) rfl (fun ls hl => ?_)
  have hsec : cSec f ia ib = if rx = 0 ∧ ry = 0 then 0 else if ¬ pp ≤ 0 ∧ ¬ pp < 4 * cAbs qq then 0 else if ¬ 0 ≤ pp ∧ ¬ (-2) * pp < cAbs qq then 3 else if 0 ≤ qq then 2 else 1 := by
    subst eqq; subst epp; subst ery; subst erx; subst euy; subst eux
    rfl
  refine lv_iload hx hb dX1_sectorOf_107 (lv_at hl 3 rfl) ?_
  refine lv_if_ne (tgt := 119) hx hb dX1_sectorOf_109 (by decide) (fun c_1 => ?_) (fun c_1 => ?_)
  · skip
    refine lv_iload hx hb dX1_sectorOf_119 (lv_at hl 1 rfl) ?_
    refine lv_if_le (tgt := 138) hx hb dX1_sectorOf_121 (by decide) (fun c_2 => ?_) (fun c_2 => ?_)
    · skip
      refine lv_iload hx hb dX1_sectorOf_138 (lv_at hl 1 rfl) ?_
      refine lv_if_ge (tgt := 158) hx hb dX1_sectorOf_140 (by decide) (fun c_3 => ?_) (fun c_3 => ?_)
      · skip
        refine lv_iload hx hb dX1_sectorOf_158 (lv_at hl 0 rfl) ?_
        refine lv_if_ge (tgt := 167) hx hb dX1_sectorOf_160 (by decide) (fun c_4 => ?_) (fun c_4 => ?_)
        · skip
          refine lv_iconst (v := 2) hx hb dX1_sectorOf_167 (by decide) ?_
          exact hQ 2 () _ _ _ _ (rfl) (by rw [hsec]; simp [c_1, c_2, c_3, c_4]) hP hD hS dX1_sectorOf_168
        · skip
          refine lv_iconst (v := 1) hx hb dX1_sectorOf_163 (by decide) ?_
          refine lv_goto (tgt := 168) hx hb dX1_sectorOf_164 (by decide) ?_
          exact hQ 1 () _ _ _ _ (rfl) (by rw [hsec]; simp [c_1, c_2, c_3, c_4]) hP hD hS dX1_sectorOf_168
      · skip
        refine lv_iload hx hb dX1_sectorOf_143 (lv_at hl 0 rfl) ?_
        refine va_mabs hx hb (hml.trans hl.1.symm) hown (hts (.methodLink RX1 108 Lib.Math.abs.name) (by decide +kernel)) (hts (.static Lib.Math.abs.name) (by decide +kernel)) (hts (.initialized "java/lang/Math") (by decide +kernel)) (hts (.code Lib.Math.abs.name Lib.Math.abs.code 1 (some .int)) (by decide +kernel)) (Nat.le_of_ble_eq_true rfl) (Nat.le_of_ble_eq_true rfl) (Nat.zero_le _) (Nat.zero_le _) dX1_sectorOf_145 ?_
        refine z_topi (x := if 0 ≤ qq then qq else 0 - qq) (y := cAbs qq) (rfl) ?_
        refine lv_bipush (v := (-2)) hx hb dX1_sectorOf_148 (by decide) ?_
        refine lv_iload hx hb dX1_sectorOf_150 (lv_at hl 1 rfl) ?_
        refine lv_imul hx hb dX1_sectorOf_152 ?_
        refine lv_icmp_gt (tgt := 158) hx hb dX1_sectorOf_153 (by decide) (fun c_5 => ?_) (fun c_5 => ?_)
        · skip
          refine lv_iload hx hb dX1_sectorOf_158 (lv_at hl 0 rfl) ?_
          refine lv_if_ge (tgt := 167) hx hb dX1_sectorOf_160 (by decide) (fun c_6 => ?_) (fun c_6 => ?_)
          · skip
            refine lv_iconst (v := 2) hx hb dX1_sectorOf_167 (by decide) ?_
            exact hQ 2 () _ _ _ _ (rfl) (by rw [hsec]; simp [c_1, c_2, c_3, c_5, c_6]) hP hD hS dX1_sectorOf_168
          · skip
            refine lv_iconst (v := 1) hx hb dX1_sectorOf_163 (by decide) ?_
            refine lv_goto (tgt := 168) hx hb dX1_sectorOf_164 (by decide) ?_
            exact hQ 1 () _ _ _ _ (rfl) (by rw [hsec]; simp [c_1, c_2, c_3, c_5, c_6]) hP hD hS dX1_sectorOf_168
        · skip
          refine lv_iconst (v := 3) hx hb dX1_sectorOf_156 (by decide) ?_
          exact hQ 3 () _ _ _ _ (rfl) (by rw [hsec]; simp [c_1, c_2, c_3, c_5]) hP hD hS dX1_sectorOf_157
    · skip
      refine lv_iconst (v := 4) hx hb dX1_sectorOf_124 (by decide) ?_
      refine lv_iload hx hb dX1_sectorOf_125 (lv_at hl 0 rfl) ?_
      refine va_mabs hx hb (hml.trans hl.1.symm) hown (hts (.methodLink RX1 108 Lib.Math.abs.name) (by decide +kernel)) (hts (.static Lib.Math.abs.name) (by decide +kernel)) (hts (.initialized "java/lang/Math") (by decide +kernel)) (hts (.code Lib.Math.abs.name Lib.Math.abs.code 1 (some .int)) (by decide +kernel)) (Nat.le_of_ble_eq_true rfl) (Nat.le_of_ble_eq_true rfl) (Nat.zero_le _) (Nat.zero_le _) dX1_sectorOf_127 ?_
      refine z_topi (x := if 0 ≤ qq then qq else 0 - qq) (y := cAbs qq) (rfl) ?_
      refine lv_imul hx hb dX1_sectorOf_130 ?_
      refine lv_iload hx hb dX1_sectorOf_131 (lv_at hl 1 rfl) ?_
      refine lv_icmp_gt (tgt := 138) hx hb dX1_sectorOf_133 (by decide) (fun c_7 => ?_) (fun c_7 => ?_)
      · skip
        refine lv_iload hx hb dX1_sectorOf_138 (lv_at hl 1 rfl) ?_
        refine lv_if_ge (tgt := 158) hx hb dX1_sectorOf_140 (by decide) (fun c_8 => ?_) (fun c_8 => ?_)
        · skip
          refine lv_iload hx hb dX1_sectorOf_158 (lv_at hl 0 rfl) ?_
          refine lv_if_ge (tgt := 167) hx hb dX1_sectorOf_160 (by decide) (fun c_9 => ?_) (fun c_9 => ?_)
          · skip
            refine lv_iconst (v := 2) hx hb dX1_sectorOf_167 (by decide) ?_
            exact hQ 2 () _ _ _ _ (rfl) (by rw [hsec]; simp [c_1, c_2, c_7, c_8, c_9]) hP hD hS dX1_sectorOf_168
          · skip
            refine lv_iconst (v := 1) hx hb dX1_sectorOf_163 (by decide) ?_
            refine lv_goto (tgt := 168) hx hb dX1_sectorOf_164 (by decide) ?_
            exact hQ 1 () _ _ _ _ (rfl) (by rw [hsec]; simp [c_1, c_2, c_7, c_8, c_9]) hP hD hS dX1_sectorOf_168
        · skip
          refine lv_iload hx hb dX1_sectorOf_143 (lv_at hl 0 rfl) ?_
          refine va_mabs hx hb (hml.trans hl.1.symm) hown (hts (.methodLink RX1 108 Lib.Math.abs.name) (by decide +kernel)) (hts (.static Lib.Math.abs.name) (by decide +kernel)) (hts (.initialized "java/lang/Math") (by decide +kernel)) (hts (.code Lib.Math.abs.name Lib.Math.abs.code 1 (some .int)) (by decide +kernel)) (Nat.le_of_ble_eq_true rfl) (Nat.le_of_ble_eq_true rfl) (Nat.zero_le _) (Nat.zero_le _) dX1_sectorOf_145 ?_
          refine z_topi (x := if 0 ≤ qq then qq else 0 - qq) (y := cAbs qq) (rfl) ?_
          refine lv_bipush (v := (-2)) hx hb dX1_sectorOf_148 (by decide) ?_
          refine lv_iload hx hb dX1_sectorOf_150 (lv_at hl 1 rfl) ?_
          refine lv_imul hx hb dX1_sectorOf_152 ?_
          refine lv_icmp_gt (tgt := 158) hx hb dX1_sectorOf_153 (by decide) (fun c_10 => ?_) (fun c_10 => ?_)
          · skip
            refine lv_iload hx hb dX1_sectorOf_158 (lv_at hl 0 rfl) ?_
            refine lv_if_ge (tgt := 167) hx hb dX1_sectorOf_160 (by decide) (fun c_11 => ?_) (fun c_11 => ?_)
            · skip
              refine lv_iconst (v := 2) hx hb dX1_sectorOf_167 (by decide) ?_
              exact hQ 2 () _ _ _ _ (rfl) (by rw [hsec]; simp [c_1, c_2, c_7, c_8, c_10, c_11]) hP hD hS dX1_sectorOf_168
            · skip
              refine lv_iconst (v := 1) hx hb dX1_sectorOf_163 (by decide) ?_
              refine lv_goto (tgt := 168) hx hb dX1_sectorOf_164 (by decide) ?_
              exact hQ 1 () _ _ _ _ (rfl) (by rw [hsec]; simp [c_1, c_2, c_7, c_8, c_10, c_11]) hP hD hS dX1_sectorOf_168
          · skip
            refine lv_iconst (v := 3) hx hb dX1_sectorOf_156 (by decide) ?_
            exact hQ 3 () _ _ _ _ (rfl) (by rw [hsec]; simp [c_1, c_2, c_7, c_8, c_10]) hP hD hS dX1_sectorOf_157
      · skip
        refine lv_iconst (v := 0) hx hb dX1_sectorOf_136 (by decide) ?_
        exact hQ 0 () _ _ _ _ (rfl) (by rw [hsec]; simp [c_1, c_2, c_7]) hP hD hS dX1_sectorOf_137
  · skip
    refine lv_iload hx hb dX1_sectorOf_112 (lv_at hl 2 rfl) ?_
    refine lv_if_ne (tgt := 119) hx hb dX1_sectorOf_114 (by decide) (fun c_12 => ?_) (fun c_12 => ?_)
    · skip
      refine lv_iload hx hb dX1_sectorOf_119 (lv_at hl 1 rfl) ?_
      refine lv_if_le (tgt := 138) hx hb dX1_sectorOf_121 (by decide) (fun c_13 => ?_) (fun c_13 => ?_)
      · skip
        refine lv_iload hx hb dX1_sectorOf_138 (lv_at hl 1 rfl) ?_
        refine lv_if_ge (tgt := 158) hx hb dX1_sectorOf_140 (by decide) (fun c_14 => ?_) (fun c_14 => ?_)
        · skip
          refine lv_iload hx hb dX1_sectorOf_158 (lv_at hl 0 rfl) ?_
          refine lv_if_ge (tgt := 167) hx hb dX1_sectorOf_160 (by decide) (fun c_15 => ?_) (fun c_15 => ?_)
          · skip
            refine lv_iconst (v := 2) hx hb dX1_sectorOf_167 (by decide) ?_
            exact hQ 2 () _ _ _ _ (rfl) (by rw [hsec]; simp [c_1, c_12, c_13, c_14, c_15]) hP hD hS dX1_sectorOf_168
          · skip
            refine lv_iconst (v := 1) hx hb dX1_sectorOf_163 (by decide) ?_
            refine lv_goto (tgt := 168) hx hb dX1_sectorOf_164 (by decide) ?_
            exact hQ 1 () _ _ _ _ (rfl) (by rw [hsec]; simp [c_1, c_12, c_13, c_14, c_15]) hP hD hS dX1_sectorOf_168
        · skip
          refine lv_iload hx hb dX1_sectorOf_143 (lv_at hl 0 rfl) ?_
          refine va_mabs hx hb (hml.trans hl.1.symm) hown (hts (.methodLink RX1 108 Lib.Math.abs.name) (by decide +kernel)) (hts (.static Lib.Math.abs.name) (by decide +kernel)) (hts (.initialized "java/lang/Math") (by decide +kernel)) (hts (.code Lib.Math.abs.name Lib.Math.abs.code 1 (some .int)) (by decide +kernel)) (Nat.le_of_ble_eq_true rfl) (Nat.le_of_ble_eq_true rfl) (Nat.zero_le _) (Nat.zero_le _) dX1_sectorOf_145 ?_
          refine z_topi (x := if 0 ≤ qq then qq else 0 - qq) (y := cAbs qq) (rfl) ?_
          refine lv_bipush (v := (-2)) hx hb dX1_sectorOf_148 (by decide) ?_
          refine lv_iload hx hb dX1_sectorOf_150 (lv_at hl 1 rfl) ?_
          refine lv_imul hx hb dX1_sectorOf_152 ?_
          refine lv_icmp_gt (tgt := 158) hx hb dX1_sectorOf_153 (by decide) (fun c_16 => ?_) (fun c_16 => ?_)
          · skip
            refine lv_iload hx hb dX1_sectorOf_158 (lv_at hl 0 rfl) ?_
            refine lv_if_ge (tgt := 167) hx hb dX1_sectorOf_160 (by decide) (fun c_17 => ?_) (fun c_17 => ?_)
            · skip
              refine lv_iconst (v := 2) hx hb dX1_sectorOf_167 (by decide) ?_
              exact hQ 2 () _ _ _ _ (rfl) (by rw [hsec]; simp [c_1, c_12, c_13, c_14, c_16, c_17]) hP hD hS dX1_sectorOf_168
            · skip
              refine lv_iconst (v := 1) hx hb dX1_sectorOf_163 (by decide) ?_
              refine lv_goto (tgt := 168) hx hb dX1_sectorOf_164 (by decide) ?_
              exact hQ 1 () _ _ _ _ (rfl) (by rw [hsec]; simp [c_1, c_12, c_13, c_14, c_16, c_17]) hP hD hS dX1_sectorOf_168
          · skip
            refine lv_iconst (v := 3) hx hb dX1_sectorOf_156 (by decide) ?_
            exact hQ 3 () _ _ _ _ (rfl) (by rw [hsec]; simp [c_1, c_12, c_13, c_14, c_16]) hP hD hS dX1_sectorOf_157
      · skip
        refine lv_iconst (v := 4) hx hb dX1_sectorOf_124 (by decide) ?_
        refine lv_iload hx hb dX1_sectorOf_125 (lv_at hl 0 rfl) ?_
        refine va_mabs hx hb (hml.trans hl.1.symm) hown (hts (.methodLink RX1 108 Lib.Math.abs.name) (by decide +kernel)) (hts (.static Lib.Math.abs.name) (by decide +kernel)) (hts (.initialized "java/lang/Math") (by decide +kernel)) (hts (.code Lib.Math.abs.name Lib.Math.abs.code 1 (some .int)) (by decide +kernel)) (Nat.le_of_ble_eq_true rfl) (Nat.le_of_ble_eq_true rfl) (Nat.zero_le _) (Nat.zero_le _) dX1_sectorOf_127 ?_
        refine z_topi (x := if 0 ≤ qq then qq else 0 - qq) (y := cAbs qq) (rfl) ?_
        refine lv_imul hx hb dX1_sectorOf_130 ?_
        refine lv_iload hx hb dX1_sectorOf_131 (lv_at hl 1 rfl) ?_
        refine lv_icmp_gt (tgt := 138) hx hb dX1_sectorOf_133 (by decide) (fun c_18 => ?_) (fun c_18 => ?_)
        · skip
          refine lv_iload hx hb dX1_sectorOf_138 (lv_at hl 1 rfl) ?_
          refine lv_if_ge (tgt := 158) hx hb dX1_sectorOf_140 (by decide) (fun c_19 => ?_) (fun c_19 => ?_)
          · skip
            refine lv_iload hx hb dX1_sectorOf_158 (lv_at hl 0 rfl) ?_
            refine lv_if_ge (tgt := 167) hx hb dX1_sectorOf_160 (by decide) (fun c_20 => ?_) (fun c_20 => ?_)
            · skip
              refine lv_iconst (v := 2) hx hb dX1_sectorOf_167 (by decide) ?_
              exact hQ 2 () _ _ _ _ (rfl) (by rw [hsec]; simp [c_1, c_12, c_13, c_18, c_19, c_20]) hP hD hS dX1_sectorOf_168
            · skip
              refine lv_iconst (v := 1) hx hb dX1_sectorOf_163 (by decide) ?_
              refine lv_goto (tgt := 168) hx hb dX1_sectorOf_164 (by decide) ?_
              exact hQ 1 () _ _ _ _ (rfl) (by rw [hsec]; simp [c_1, c_12, c_13, c_18, c_19, c_20]) hP hD hS dX1_sectorOf_168
          · skip
            refine lv_iload hx hb dX1_sectorOf_143 (lv_at hl 0 rfl) ?_
            refine va_mabs hx hb (hml.trans hl.1.symm) hown (hts (.methodLink RX1 108 Lib.Math.abs.name) (by decide +kernel)) (hts (.static Lib.Math.abs.name) (by decide +kernel)) (hts (.initialized "java/lang/Math") (by decide +kernel)) (hts (.code Lib.Math.abs.name Lib.Math.abs.code 1 (some .int)) (by decide +kernel)) (Nat.le_of_ble_eq_true rfl) (Nat.le_of_ble_eq_true rfl) (Nat.zero_le _) (Nat.zero_le _) dX1_sectorOf_145 ?_
            refine z_topi (x := if 0 ≤ qq then qq else 0 - qq) (y := cAbs qq) (rfl) ?_
            refine lv_bipush (v := (-2)) hx hb dX1_sectorOf_148 (by decide) ?_
            refine lv_iload hx hb dX1_sectorOf_150 (lv_at hl 1 rfl) ?_
            refine lv_imul hx hb dX1_sectorOf_152 ?_
            refine lv_icmp_gt (tgt := 158) hx hb dX1_sectorOf_153 (by decide) (fun c_21 => ?_) (fun c_21 => ?_)
            · skip
              refine lv_iload hx hb dX1_sectorOf_158 (lv_at hl 0 rfl) ?_
              refine lv_if_ge (tgt := 167) hx hb dX1_sectorOf_160 (by decide) (fun c_22 => ?_) (fun c_22 => ?_)
              · skip
                refine lv_iconst (v := 2) hx hb dX1_sectorOf_167 (by decide) ?_
                exact hQ 2 () _ _ _ _ (rfl) (by rw [hsec]; simp [c_1, c_12, c_13, c_18, c_19, c_21, c_22]) hP hD hS dX1_sectorOf_168
              · skip
                refine lv_iconst (v := 1) hx hb dX1_sectorOf_163 (by decide) ?_
                refine lv_goto (tgt := 168) hx hb dX1_sectorOf_164 (by decide) ?_
                exact hQ 1 () _ _ _ _ (rfl) (by rw [hsec]; simp [c_1, c_12, c_13, c_18, c_19, c_21, c_22]) hP hD hS dX1_sectorOf_168
            · skip
              refine lv_iconst (v := 3) hx hb dX1_sectorOf_156 (by decide) ?_
              exact hQ 3 () _ _ _ _ (rfl) (by rw [hsec]; simp [c_1, c_12, c_13, c_18, c_19, c_21]) hP hD hS dX1_sectorOf_157
        · skip
          refine lv_iconst (v := 0) hx hb dX1_sectorOf_136 (by decide) ?_
          exact hQ 0 () _ _ _ _ (rfl) (by rw [hsec]; simp [c_1, c_12, c_13, c_18]) hP hD hS dX1_sectorOf_137
    · skip
      refine lv_iconst (v := 0) hx hb dX1_sectorOf_117 (by decide) ?_
      exact hQ 0 () _ _ _ _ (rfl) (by rw [hsec]; simp [c_1, c_12]) hP hD hS dX1_sectorOf_118

set_option maxHeartbeats 4000000 in
set_option maxRecDepth 100000 in
theorem kX1_tableOf (l : Launch) (D : va_G) (cI cB : ClassId) (tE tN : Nat) (hF : Nat) (cF : Nat) (aF : Nat) (wF : Nat) (f : Nat → Int32) (t1 : Int64) (t2 : Int64) (t3 : Int64) (t4 : Int64) (ia : Nat) (ib : Nat) (sz : Nat) (ha : ia ≤ 6) (hb6 : ib ≤ 6) : zI l yX1_tableOf wsX1_tableOf ({ frames := 2, cells := 0, slots := 0, locals := 60 }) D cI cB tE tN [.ref hF, .int (nI ia), .int (nI ib)] [(hF, .inr (1, [.ref cF, .ref aF, .ref wF])), (cF, .inl (cI, 39, .inl f)), (aF, .inr (0, [.long t1, .long t2, .long t3, .long t4]))] sz (fun u : Int64 × Int64 × Int64 × Int64 => [(hF, .inr (1, [.ref cF, .ref aF, .ref wF])), (cF, .inl (cI, 39, .inl f)), (aF, .inr (0, [.long u.1, .long u.2.1, .long u.2.2.1, .long u.2.2.2]))]) (fun (r : Int32) (u : Int64 × Int64 × Int64 × Int64) => r = cTab f ia ib) 0 0 := by
  refine zI_mk (cc := cX1_tableOf) (maxL := 5) (rt := .int) (by decide) rfl (Nat.le_of_ble_eq_true rfl) ?_
  intro p e s m below meth c A Q ls S0 hname hA hK hP hD hT hS hQ hl
  obtain ⟨hx, hb, hml, hown, hts⟩ := id S0
  have hl : lv_has ls 5 [(0, .ref hF), (1, .int (nI ia)), (2, .int (nI ib))] := hl
  refine lv_aload_n hx hb dX1_tableOf_0 rfl (lv_at hl 0 rfl) ?_
  refine lv_iload_n hx hb dX1_tableOf_1 rfl (lv_at hl 1 rfl) ?_
  refine lv_iload_n hx hb dX1_tableOf_2 rfl (lv_at hl 2 rfl) ?_
  refine z_VI (n := 2) (wn := (fun u : Int64 × Int64 × Int64 × Int64 => [(hF, .inr (1, [.ref cF, .ref aF, .ref wF])), (cF, .inl (cI, 39, .inl f)), (aF, .inr (0, [.long u.1, .long u.2.1, .long u.2.2.1, .long u.2.2.2]))])) (wr := []) (As := [.int (nI ia), .int (nI ib)]) (rest := []) ⟨hx, hb, hml, hown, hts⟩ hK hP hD hS hA hT (kX1_haveRisk l D cI cB tE tN hF cF aF wF f t1 t2 t3 t4 ia ib _ (by omega) (by omega)) gX1_tableOf_X1_haveRisk rfl rfl rfl (by decide +kernel) ⟨Nat.le_of_ble_eq_true rfl, Nat.le_of_ble_eq_true rfl⟩ [0, 1, 2] [] [0, 1, 2] (by decide) rfl rfl (by decide) (by decide) (by decide) (fun u => rfl) 0 1 rfl rfl rfl rfl hl.1 rfl (Nat.le_of_ble_eq_true rfl) dX1_tableOf_3 ⟨Nat.le_of_ble_eq_true rfl, Nat.le_of_ble_eq_true rfl⟩ (fun r_5 u H locs hw_6 hP hD hS => ?_)
  obtain ⟨b1_1, b2_2, b3_3, b4_4⟩ := u
  try dsimp only at hw_6
  have hP : va_P D vwCl [(hF, .inr (1, [.ref cF, .ref aF, .ref wF])), (cF, .inl (cI, 39, .inl f)), (aF, .inr (0, [.long b1_1, .long b2_2, .long b3_3, .long b4_4]))] H := hP
  have hD : va_D A [(hF, .inr (1, [.ref cF, .ref aF, .ref wF])), (cF, .inl (cI, 39, .inl f)), (aF, .inr (0, [.long b1_1, .long b2_2, .long b3_3, .long b4_4]))] := hD
  obtain ⟨hw_6, hq_7⟩ := hw_6
  subst r_5
  refine lv_if_ne (tgt := 11) hx hb dX1_tableOf_6 (by decide) (fun c_8 => ?_) (fun c_8 => ?_)
  · skip
    have c_8 := z_b1 c_8
    refine lv_aload_n hx hb dX1_tableOf_11 rfl (lv_at hl 0 rfl) ?_
    refine lv_iload_n hx hb dX1_tableOf_12 rfl (lv_at hl 1 rfl) ?_
    refine lv_iload_n hx hb dX1_tableOf_13 rfl (lv_at hl 2 rfl) ?_
    refine z_VI (n := 2) (wn := (fun u : Unit => [(hF, .inr (1, [.ref cF, .ref aF, .ref wF])), (cF, .inl (cI, 39, .inl f)), (aF, .inr (0, [.long b1_1, .long b2_2, .long b3_3, .long b4_4]))])) (wr := [(aF, .inr (0, [.long b1_1, .long b2_2, .long b3_3, .long b4_4]))]) (As := [.int (nI ia), .int (nI ib)]) (rest := []) ⟨hx, hb, hml, hown, hts⟩ hK hP hD hS hA hT (kX1_sectorOf l D cI cB tE tN hF cF aF wF f ia ib _ (by omega) (by omega)) gX1_tableOf_X1_sectorOf rfl rfl rfl (by decide +kernel) ⟨Nat.le_of_ble_eq_true rfl, Nat.le_of_ble_eq_true rfl⟩ [0, 1] [2] [1, 2, 0] (by decide) rfl rfl (by decide) (by decide) (by decide) (fun u => rfl) 0 1 rfl rfl rfl rfl hl.1 rfl (Nat.le_of_ble_eq_true rfl) dX1_tableOf_14 ⟨Nat.le_of_ble_eq_true rfl, Nat.le_of_ble_eq_true rfl⟩ (fun r_9 u H locs hw_10 hP hD hS => ?_)
    try dsimp only at hw_10
    have hP : va_P D vwCl [(hF, .inr (1, [.ref cF, .ref aF, .ref wF])), (cF, .inl (cI, 39, .inl f)), (aF, .inr (0, [.long b1_1, .long b2_2, .long b3_3, .long b4_4]))] H := hP
    have hD : va_D A [(hF, .inr (1, [.ref cF, .ref aF, .ref wF])), (cF, .inl (cI, 39, .inl f)), (aF, .inr (0, [.long b1_1, .long b2_2, .long b3_3, .long b4_4]))] := hD
    subst r_9
    refine lv_istore_n (lv' := [(3, .int (cSec f ia ib)), (0, .ref hF), (1, .int (nI ia)), (2, .int (nI ib))]) hx hb dX1_tableOf_17 rfl hl (by decide) rfl (fun ls hl => ?_)
    refine lv_aload_n hx hb dX1_tableOf_18 rfl (lv_at hl 1 rfl) ?_
    refine lv_iload_n hx hb dX1_tableOf_19 rfl (lv_at hl 3 rfl) ?_
    refine lv_iload_n hx hb dX1_tableOf_20 rfl (lv_at hl 2 rfl) ?_
    refine z_VI (n := 2) (wn := (fun u : Unit => [(hF, .inr (1, [.ref cF, .ref aF, .ref wF])), (cF, .inl (cI, 39, .inl f)), (aF, .inr (0, [.long b1_1, .long b2_2, .long b3_3, .long b4_4]))])) (wr := [(aF, .inr (0, [.long b1_1, .long b2_2, .long b3_3, .long b4_4]))]) (As := [.int (nI ib), .int (nI ia)]) (rest := []) ⟨hx, hb, hml, hown, hts⟩ hK hP hD hS hA hT (kX1_sectorOf l D cI cB tE tN hF cF aF wF f ib ia _ (by omega) (by omega)) gX1_tableOf_X1_sectorOf rfl rfl rfl (by decide +kernel) ⟨Nat.le_of_ble_eq_true rfl, Nat.le_of_ble_eq_true rfl⟩ [0, 1] [2] [1, 2, 0] (by decide) rfl rfl (by decide) (by decide) (by decide) (fun u => rfl) 0 1 rfl rfl rfl rfl hl.1 rfl (Nat.le_of_ble_eq_true rfl) dX1_tableOf_21 ⟨Nat.le_of_ble_eq_true rfl, Nat.le_of_ble_eq_true rfl⟩ (fun r_11 u H locs hw_12 hP hD hS => ?_)
    try dsimp only at hw_12
    have hP : va_P D vwCl [(hF, .inr (1, [.ref cF, .ref aF, .ref wF])), (cF, .inl (cI, 39, .inl f)), (aF, .inr (0, [.long b1_1, .long b2_2, .long b3_3, .long b4_4]))] H := hP
    have hD : va_D A [(hF, .inr (1, [.ref cF, .ref aF, .ref wF])), (cF, .inl (cI, 39, .inl f)), (aF, .inr (0, [.long b1_1, .long b2_2, .long b3_3, .long b4_4]))] := hD
    subst r_11
    refine lv_istore (lv' := [(4, .int (cSec f ib ia)), (3, .int (cSec f ia ib)), (0, .ref hF), (1, .int (nI ia)), (2, .int (nI ib))]) hx hb dX1_tableOf_24 hl (by decide) rfl (fun ls hl => ?_)
    refine lv_iload hx hb dX1_tableOf_26 (lv_at hl 0 rfl) ?_
    refine lv_iconst (v := 3) hx hb dX1_tableOf_28 (by decide) ?_
    refine lv_icmp_ne (tgt := 34) hx hb dX1_tableOf_29 (by decide) (fun c_13 => ?_) (fun c_13 => ?_)
    · skip
      refine lv_iload_n hx hb dX1_tableOf_34 rfl (lv_at hl 1 rfl) ?_
      refine lv_iconst (v := 3) hx hb dX1_tableOf_35 (by decide) ?_
      refine lv_icmp_ne (tgt := 41) hx hb dX1_tableOf_36 (by decide) (fun c_14 => ?_) (fun c_14 => ?_)
      · skip
        refine lv_iload_n hx hb dX1_tableOf_41 rfl (lv_at hl 1 rfl) ?_
        refine lv_iconst (v := 1) hx hb dX1_tableOf_42 (by decide) ?_
        refine lv_icmp_ne (tgt := 48) hx hb dX1_tableOf_43 (by decide) (fun c_15 => ?_) (fun c_15 => ?_)
        · skip
          refine lv_iload_n hx hb dX1_tableOf_48 rfl (lv_at hl 1 rfl) ?_
          refine lv_iconst (v := 2) hx hb dX1_tableOf_49 (by decide) ?_
          refine lv_icmp_ne (tgt := 55) hx hb dX1_tableOf_50 (by decide) (fun c_16 => ?_) (fun c_16 => ?_)
          · skip
            refine lv_iload hx hb dX1_tableOf_55 (lv_at hl 0 rfl) ?_
            refine lv_iconst (v := 1) hx hb dX1_tableOf_57 (by decide) ?_
            refine lv_icmp_ne (tgt := 65) hx hb dX1_tableOf_58 (by decide) (fun c_17 => ?_) (fun c_17 => ?_)
            · skip
              refine lv_iconst (v := 1) hx hb dX1_tableOf_65 (by decide) ?_
              exact hQ 1 (b1_1, b2_2, b3_3, b4_4) _ _ _ _ (rfl) (by simp [cTab, cTb, c_8, c_13, c_14, c_15, c_16, c_17]) hP hD hS dX1_tableOf_66
            · skip
              refine lv_iconst (v := 2) hx hb dX1_tableOf_61 (by decide) ?_
              refine lv_goto (tgt := 66) hx hb dX1_tableOf_62 (by decide) ?_
              exact hQ 2 (b1_1, b2_2, b3_3, b4_4) _ _ _ _ (rfl) (by simp [cTab, cTb, c_8, c_13, c_14, c_15, c_16, c_17]) hP hD hS dX1_tableOf_66
          · skip
            refine lv_iconst (v := 2) hx hb dX1_tableOf_53 (by decide) ?_
            exact hQ 2 (b1_1, b2_2, b3_3, b4_4) _ _ _ _ (rfl) (by simp [cTab, cTb, c_8, c_13, c_14, c_15, c_16]) hP hD hS dX1_tableOf_54
        · skip
          refine lv_iconst (v := 1) hx hb dX1_tableOf_46 (by decide) ?_
          exact hQ 1 (b1_1, b2_2, b3_3, b4_4) _ _ _ _ (rfl) (by simp [cTab, cTb, c_8, c_13, c_14, c_15]) hP hD hS dX1_tableOf_47
      · skip
        refine lv_iconst (v := 2) hx hb dX1_tableOf_39 (by decide) ?_
        exact hQ 2 (b1_1, b2_2, b3_3, b4_4) _ _ _ _ (rfl) (by simp [cTab, cTb, c_8, c_13, c_14]) hP hD hS dX1_tableOf_40
    · skip
      refine lv_iconst (v := 1) hx hb dX1_tableOf_32 (by decide) ?_
      exact hQ 1 (b1_1, b2_2, b3_3, b4_4) _ _ _ _ (rfl) (by simp [cTab, cTb, c_8, c_13]) hP hD hS dX1_tableOf_33
  · skip
    have c_8 := z_b0 c_8
    refine lv_iconst (v := 0) hx hb dX1_tableOf_9 (by decide) ?_
    exact hQ 0 (b1_1, b2_2, b3_3, b4_4) _ _ _ _ (rfl) (by simp [cTab, cTb, c_8]) hP hD hS dX1_tableOf_10
