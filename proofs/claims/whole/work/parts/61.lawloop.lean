set_option maxHeartbeats 4000000 in
set_option maxRecDepth 100000 in
theorem law_loop (l : Launch) {p : Program} {e : Env} {s : State} {m : MethodId} {below : List Frame} {meth : Method} {c : Code} {D : va_G} {cI cB : ClassId} {tE tN : Nat} {b L : Nat} {xs : Nat → Int32} (hL : L ≤ 2560) (C0 : lw_At p s m meth c b L xs) (hK : va_K D vwCl (zTy cI cB) s) (hT : zST tE tN (fun q : Nat => s.heap.size ≤ q) s s.heap) (oP hF cF aF wF hH rF hC bF nF oM mN mA mP mR mT mL mB : Nat) : ∀ (k n : Nat) (cb : Int32) (cn : Int32) (cf : Int32) (f : Nat → Int32) (t1 : Int64) (t2 : Int64) (t3 : Int64) (t4 : Int64) (w1 : Int64) (w2 : Int64) (w3 : Int64) (w4 : Int64) (kp : Nat) (g : Nat → Int32) (ln : Nat) (pa : Nat) (kd : Int32) (bt : Nat → Int32) (nu : Nat → Int32) (x1 : Int64) (x2 : Int64) (x3 : Int64) (x4 : Int64) (y1 : Int64) (y2 : Int64) (y3 : Int64) (y4 : Int64) (od : Int32) (spt : Int32) (wa : Int32) (hs : Int64) (qn : Nat → Int32) (qa : Nat → Int32) (qp : Nat → Int32) (rf : Nat → Int32) (tx : Nat → Int32) (lt : Nat → Int32) (nb : Nat → Int32) (H : Heap) (locs : List Loc) (ls : Array Slot), L - n = k → n ≤ 2565 → LI kp ln f g bt cb cn cf qn qp rf tx → va_P D vwCl [(oP, .inr (4, [.ref hF, .ref hH, .ref hC, .int cb, .int cn, .int cf])), (hF, .inr (1, [.ref cF, .ref aF, .ref wF])), (cF, .inl (cI, 39, .inl f)), (aF, .inr (0, [.long t1, .long t2, .long t3, .long t4])), (wF, .inr (0, [.long w1, .long w2, .long w3, .long w4])), (hH, .inr (2, [.ref rF, .int (nI kp)])), (rF, .inl (cI, 234, .inl g)), (hC, .inr (3, [.ref bF, .int (nI ln), .int (nI pa), .int kd, .ref nF])), (bF, .inl (cB, 150, .inl bt)), (nF, .inl (cI, 4, .inl nu)), (oM, .inr (5, [.ref mN, .ref mA, .ref mP, .int (nI kp), .ref mR, .ref mT, .int (nI ln), .long x1, .long x2, .long x3, .long x4, .long y1, .long y2, .long y3, .long y4, .ref mL, .ref mB, .int od, .int spt, .int wa, .long hs])), (mN, .inl (cI, 39, .inl qn)), (mA, .inl (cI, 39, .inl qa)), (mP, .inl (cI, 195, .inl qp)), (mR, .inl (cI, 3, .inl rf)), (mT, .inl (cI, 150, .inl tx)), (mL, .inl (cI, 75, .inl lt)), (mB, .inl (cI, 300, .inl nb))] H → va_D (fun q : Nat => s.heap.size ≤ q) [(oP, .inr (4, [.ref hF, .ref hH, .ref hC, .int cb, .int cn, .int cf])), (hF, .inr (1, [.ref cF, .ref aF, .ref wF])), (cF, .inl (cI, 39, .inl f)), (aF, .inr (0, [.long t1, .long t2, .long t3, .long t4])), (wF, .inr (0, [.long w1, .long w2, .long w3, .long w4])), (hH, .inr (2, [.ref rF, .int (nI kp)])), (rF, .inl (cI, 234, .inl g)), (hC, .inr (3, [.ref bF, .int (nI ln), .int (nI pa), .int kd, .ref nF])), (bF, .inl (cB, 150, .inl bt)), (nF, .inl (cI, 4, .inl nu)), (oM, .inr (5, [.ref mN, .ref mA, .ref mP, .int (nI kp), .ref mR, .ref mT, .int (nI ln), .long x1, .long x2, .long x3, .long x4, .long y1, .long y2, .long y3, .long y4, .ref mL, .ref mB, .int od, .int spt, .int wa, .long hs])), (mN, .inl (cI, 39, .inl qn)), (mA, .inl (cI, 39, .inl qa)), (mP, .inl (cI, 195, .inl qp)), (mR, .inl (cI, 3, .inl rf)), (mT, .inl (cI, 150, .inl tx)), (mL, .inl (cI, 75, .inl lt)), (mB, .inl (cI, 300, .inl nb))] → va_S (fun q : Nat => s.heap.size ≤ q) s.heap H locs → lv_has ls 4 [(3, .int (nI n)), (2, .ref oM), (1, .ref oP), (0, .ref b)] → W p l e room_1 s m #[Value.ref b] below meth c H locs 18 1273 (lw_Z below #[Value.ref b] s) (F0 m 18 ls []) := by
  intro k
  induction k using Nat.strongRecOn with
  | ind k ih =>
  intro n cb cn cf f t1 t2 t3 t4 w1 w2 w3 w4 kp g ln pa kd bt nu x1 x2 x3 x4 y1 y2 y3 y4 od spt wa hs qn qa qp rf tx lt nb H locs ls hk hn hLI hP hD hS hl
  obtain ⟨hx, hb, hr, hml, hown, hts0, hX, hbl, hlocks, hgv⟩ := id C0
  have hts : ∀ w ∈ wsL_law, w.before #[Value.ref b] s = true := fun w h => hts0 w (wsL_law_in w h)
  have hA : ∀ q : Nat, s.heap.size ≤ q → (fun q : Nat => s.heap.size ≤ q) q := fun q h => h
  have hbA : ¬ (fun q : Nat => s.heap.size ≤ q) b := Nat.not_le.mpr hbl
  refine lv_iload_n hx hb dL_law_18 rfl (lv_at hl 0 rfl) ?_
  refine lv_aload_n hx hb dL_law_19 rfl (lv_at hl 3 rfl) ?_
  refine va_slen hx hb hX hbl hbA hS dL_law_20 ?_
  refine lv_iconst (v := 5) hx hb dL_law_21 (by decide) ?_
  refine lv_isub hx hb dL_law_22 ?_
  refine lv_icmp_gt (tgt := 831) hx hb dL_law_23 (by decide) (fun c_1 => ?_) (fun c_1 => ?_)
  · skip
    refine lv_iconst (v := 1) hx hb dL_law_831 (by decide) ?_
    exact va_forget (fun q hq => hS.2.2 q hq) (lw_ret hx hb hr hlocks dL_law_832)
  · skip
    have hn5 : n + 5 ≤ L := lw_in hL hn c_1
    have kk : lwK p l e s m below meth c D cI cB b n oP hF cF aF wF hH rF hC bF nF oM mN mA mP mR mT mL mB := by
      intro cb cn cf f t1 t2 t3 t4 w1 w2 w3 w4 kp g ln pa kd bt nu x1 x2 x3 x4 y1 y2 y3 y4 od spt wa hs qn qa qp rf tx lt nb H locs ls hLI hP hD hS hl
      refine lv_iinc (v := nI (n + 5)) (lv' := [(3, .int (nI (n + 5))), (2, .ref oM), (1, .ref oP), (0, .ref b)]) hx hb dL_law_825 hl (k := 0) rfl (z_add rfl rfl) (by decide) rfl (fun ls hl => ?_)
      refine lv_goto (tgt := 18) hx hb dL_law_828 (by decide) ?_
      exact ih _ (by omega) (n + 5) cb cn cf f t1 t2 t3 t4 w1 w2 w3 w4 kp g ln pa kd bt nu x1 x2 x3 x4 y1 y2 y3 y4 od spt wa hs qn qa qp rf tx lt nb _ _ _ rfl (by omega) hLI hP hD hS hl
    refine lv_aload_n hx hb dL_law_26 rfl (lv_at hl 3 rfl) ?_
    refine lv_iload_n hx hb dL_law_27 rfl (lv_at hl 0 rfl) ?_
    refine va_sld hx hb hX hbl hbA hS (lw_vin hL (show n < L by omega)).1 dL_law_28 ?_
    refine lv_bipush (v := 31) hx hb dL_law_29 (by decide) ?_
    refine lv_iand hx hb dL_law_31 ?_
    by_cases w_2 : ((xs (nI n).toNatClampNeg) &&& 31) = 0
    · skip
      refine lv_tableIn (tgt := 148) (off := 116) hx hb dL_law_32 (by rw [w_2]; decide) (by rw [w_2]; decide) (by rw [w_2]; decide) (by decide) ?_
      exact lc_adds l hL C0 hK hT n hn5 oP hF cF aF wF hH rF hC bF nF oM mN mA mP mR mT mL mB cb cn cf f t1 t2 t3 t4 w1 w2 w3 w4 kp g ln pa kd bt nu x1 x2 x3 x4 y1 y2 y3 y4 od spt wa hs qn qa qp rf tx lt nb hLI _ _ _ hP hD hS hl kk
    · skip
      by_cases w_3 : ((xs (nI n).toNatClampNeg) &&& 31) = 1
      · skip
        refine lv_tableIn (tgt := 201) (off := 169) hx hb dL_law_32 (by rw [w_3]; decide) (by rw [w_3]; decide) (by rw [w_3]; decide) (by decide) ?_
        exact lc_own l hL C0 hK hT n hn5 oP hF cF aF wF hH rF hC bF nF oM mN mA mP mR mT mL mB cb cn cf f t1 t2 t3 t4 w1 w2 w3 w4 kp g ln pa kd bt nu x1 x2 x3 x4 y1 y2 y3 y4 od spt wa hs qn qa qp rf tx lt nb hLI _ _ _ hP hD hS hl kk
      · skip
        by_cases w_4 : ((xs (nI n).toNatClampNeg) &&& 31) = 2
        · skip
          refine lv_tableIn (tgt := 254) (off := 222) hx hb dL_law_32 (by rw [w_4]; decide) (by rw [w_4]; decide) (by rw [w_4]; decide) (by decide) ?_
          exact lc_drops l hL C0 hK hT n hn5 oP hF cF aF wF hH rF hC bF nF oM mN mA mP mR mT mL mB cb cn cf f t1 t2 t3 t4 w1 w2 w3 w4 kp g ln pa kd bt nu x1 x2 x3 x4 y1 y2 y3 y4 od spt wa hs qn qa qp rf tx lt nb hLI _ _ _ hP hD hS hl kk
        · skip
          by_cases w_5 : ((xs (nI n).toNatClampNeg) &&& 31) = 3
          · skip
            refine lv_tableIn (tgt := 277) (off := 245) hx hb dL_law_32 (by rw [w_5]; decide) (by rw [w_5]; decide) (by rw [w_5]; decide) (by decide) ?_
            exact lc_veers l hL C0 hK hT n hn5 oP hF cF aF wF hH rF hC bF nF oM mN mA mP mR mT mL mB cb cn cf f t1 t2 t3 t4 w1 w2 w3 w4 kp g ln pa kd bt nu x1 x2 x3 x4 y1 y2 y3 y4 od spt wa hs qn qa qp rf tx lt nb hLI _ _ _ hP hD hS hl kk
          · skip
            by_cases w_6 : ((xs (nI n).toNatClampNeg) &&& 31) = 4
            · skip
              refine lv_tableIn (tgt := 320) (off := 288) hx hb dL_law_32 (by rw [w_6]; decide) (by rw [w_6]; decide) (by rw [w_6]; decide) (by decide) ?_
              exact lc_sets l hL C0 hK hT n hn5 oP hF cF aF wF hH rF hC bF nF oM mN mA mP mR mT mL mB cb cn cf f t1 t2 t3 t4 w1 w2 w3 w4 kp g ln pa kd bt nu x1 x2 x3 x4 y1 y2 y3 y4 od spt wa hs qn qa qp rf tx lt nb hLI _ _ _ hP hD hS hl kk
            · skip
              by_cases w_7 : ((xs (nI n).toNatClampNeg) &&& 31) = 5
              · skip
                refine lv_tableIn (tgt := 353) (off := 321) hx hb dL_law_32 (by rw [w_7]; decide) (by rw [w_7]; decide) (by rw [w_7]; decide) (by decide) ?_
                exact lc_steps l hL C0 hK hT n hn5 oP hF cF aF wF hH rF hC bF nF oM mN mA mP mR mT mL mB cb cn cf f t1 t2 t3 t4 w1 w2 w3 w4 kp g ln pa kd bt nu x1 x2 x3 x4 y1 y2 y3 y4 od spt wa hs qn qa qp rf tx lt nb hLI _ _ _ hP hD hS hl kk
              · skip
                by_cases w_8 : ((xs (nI n).toNatClampNeg) &&& 31) = 6
                · skip
                  refine lv_tableIn (tgt := 376) (off := 344) hx hb dL_law_32 (by rw [w_8]; decide) (by rw [w_8]; decide) (by rw [w_8]; decide) (by decide) ?_
                  exact lc_looks l hL C0 hK hT n hn5 oP hF cF aF wF hH rF hC bF nF oM mN mA mP mR mT mL mB cb cn cf f t1 t2 t3 t4 w1 w2 w3 w4 kp g ln pa kd bt nu x1 x2 x3 x4 y1 y2 y3 y4 od spt wa hs qn qa qp rf tx lt nb hLI _ _ _ hP hD hS hl kk
                · skip
                  by_cases w_9 : ((xs (nI n).toNatClampNeg) &&& 31) = 7
                  · skip
                    refine lv_tableIn (tgt := 389) (off := 357) hx hb dL_law_32 (by rw [w_9]; decide) (by rw [w_9]; decide) (by rw [w_9]; decide) (by decide) ?_
                    exact lc_obeys l hL C0 hK hT n hn5 oP hF cF aF wF hH rF hC bF nF oM mN mA mP mR mT mL mB cb cn cf f t1 t2 t3 t4 w1 w2 w3 w4 kp g ln pa kd bt nu x1 x2 x3 x4 y1 y2 y3 y4 od spt wa hs qn qa qp rf tx lt nb hLI _ _ _ hP hD hS hl kk
                  · skip
                    by_cases w_10 : ((xs (nI n).toNatClampNeg) &&& 31) = 8
                    · skip
                      refine lv_tableIn (tgt := 402) (off := 370) hx hb dL_law_32 (by rw [w_10]; decide) (by rw [w_10]; decide) (by rw [w_10]; decide) (by decide) ?_
                      exact lc_of l hL C0 hK hT n hn5 oP hF cF aF wF hH rF hC bF nF oM mN mA mP mR mT mL mB cb cn cf f t1 t2 t3 t4 w1 w2 w3 w4 kp g ln pa kd bt nu x1 x2 x3 x4 y1 y2 y3 y4 od spt wa hs qn qa qp rf tx lt nb hLI _ _ _ hP hD hS hl kk
                    · skip
                      by_cases w_11 : ((xs (nI n).toNatClampNeg) &&& 31) = 9
                      · skip
                        refine lv_tableIn (tgt := 435) (off := 403) hx hb dL_law_32 (by rw [w_11]; decide) (by rw [w_11]; decide) (by rw [w_11]; decide) (by decide) ?_
                        exact lc_closest l hL C0 hK hT n hn5 oP hF cF aF wF hH rF hC bF nF oM mN mA mP mR mT mL mB cb cn cf f t1 t2 t3 t4 w1 w2 w3 w4 kp g ln pa kd bt nu x1 x2 x3 x4 y1 y2 y3 y4 od spt wa hs qn qa qp rf tx lt nb hLI _ _ _ hP hD hS hl kk
                      · skip
                        by_cases w_12 : ((xs (nI n).toNatClampNeg) &&& 31) = 10
                        · skip
                          refine lv_tableIn (tgt := 479) (off := 447) hx hb dL_law_32 (by rw [w_12]; decide) (by rw [w_12]; decide) (by rw [w_12]; decide) (by decide) ?_
                          exact lc_risk l hL C0 hK hT n hn5 oP hF cF aF wF hH rF hC bF nF oM mN mA mP mR mT mL mB cb cn cf f t1 t2 t3 t4 w1 w2 w3 w4 kp g ln pa kd bt nu x1 x2 x3 x4 y1 y2 y3 y4 od spt wa hs qn qa qp rf tx lt nb hLI _ _ _ hP hD hS hl kk
                        · skip
                          by_cases w_13 : ((xs (nI n).toNatClampNeg) &&& 31) = 11
                          · skip
                            refine lv_tableIn (tgt := 512) (off := 480) hx hb dL_law_32 (by rw [w_13]; decide) (by rw [w_13]; decide) (by rw [w_13]; decide) (by decide) ?_
                            exact lc_sector l hL C0 hK hT n hn5 oP hF cF aF wF hH rF hC bF nF oM mN mA mP mR mT mL mB cb cn cf f t1 t2 t3 t4 w1 w2 w3 w4 kp g ln pa kd bt nu x1 x2 x3 x4 y1 y2 y3 y4 od spt wa hs qn qa qp rf tx lt nb hLI _ _ _ hP hD hS hl kk
                          · skip
                            by_cases w_14 : ((xs (nI n).toNatClampNeg) &&& 31) = 12
                            · skip
                              refine lv_tableIn (tgt := 545) (off := 513) hx hb dL_law_32 (by rw [w_14]; decide) (by rw [w_14]; decide) (by rw [w_14]; decide) (by decide) ?_
                              exact lc_table l hL C0 hK hT n hn5 oP hF cF aF wF hH rF hC bF nF oM mN mA mP mR mT mL mB cb cn cf f t1 t2 t3 t4 w1 w2 w3 w4 kp g ln pa kd bt nu x1 x2 x3 x4 y1 y2 y3 y4 od spt wa hs qn qa qp rf tx lt nb hLI _ _ _ hP hD hS hl kk
                            · skip
                              by_cases w_15 : ((xs (nI n).toNatClampNeg) &&& 31) = 13
                              · skip
                                refine lv_tableIn (tgt := 578) (off := 546) hx hb dL_law_32 (by rw [w_15]; decide) (by rw [w_15]; decide) (by rw [w_15]; decide) (by decide) ?_
                                exact lc_duty l hL C0 hK hT n hn5 oP hF cF aF wF hH rF hC bF nF oM mN mA mP mR mT mL mB cb cn cf f t1 t2 t3 t4 w1 w2 w3 w4 kp g ln pa kd bt nu x1 x2 x3 x4 y1 y2 y3 y4 od spt wa hs qn qa qp rf tx lt nb hLI _ _ _ hP hD hS hl kk
                              · skip
                                by_cases w_16 : ((xs (nI n).toNatClampNeg) &&& 31) = 14
                                · skip
                                  refine lv_tableIn (tgt := 601) (off := 569) hx hb dL_law_32 (by rw [w_16]; decide) (by rw [w_16]; decide) (by rw [w_16]; decide) (by decide) ?_
                                  exact lc_worst l hL C0 hK hT n hn5 oP hF cF aF wF hH rF hC bF nF oM mN mA mP mR mT mL mB cb cn cf f t1 t2 t3 t4 w1 w2 w3 w4 kp g ln pa kd bt nu x1 x2 x3 x4 y1 y2 y3 y4 od spt wa hs qn qa qp rf tx lt nb hLI _ _ _ hP hD hS hl kk
                                · skip
                                  by_cases w_17 : ((xs (nI n).toNatClampNeg) &&& 31) = 15
                                  · skip
                                    refine lv_tableIn (tgt := 614) (off := 582) hx hb dL_law_32 (by rw [w_17]; decide) (by rw [w_17]; decide) (by rw [w_17]; decide) (by decide) ?_
                                    exact lc_clear l hL C0 hK hT n hn5 oP hF cF aF wF hH rF hC bF nF oM mN mA mP mR mT mL mB cb cn cf f t1 t2 t3 t4 w1 w2 w3 w4 kp g ln pa kd bt nu x1 x2 x3 x4 y1 y2 y3 y4 od spt wa hs qn qa qp rf tx lt nb hLI _ _ _ hP hD hS hl kk
                                  · skip
                                    by_cases w_18 : ((xs (nI n).toNatClampNeg) &&& 31) = 16
                                    · skip
                                      refine lv_tableIn (tgt := 657) (off := 625) hx hb dL_law_32 (by rw [w_18]; decide) (by rw [w_18]; decide) (by rw [w_18]; decide) (by decide) ?_
                                      exact lc_blocked l hL C0 hK hT n hn5 oP hF cF aF wF hH rF hC bF nF oM mN mA mP mR mT mL mB cb cn cf f t1 t2 t3 t4 w1 w2 w3 w4 kp g ln pa kd bt nu x1 x2 x3 x4 y1 y2 y3 y4 od spt wa hs qn qa qp rf tx lt nb hLI _ _ _ hP hD hS hl kk
                                    · skip
                                      by_cases w_19 : ((xs (nI n).toNatClampNeg) &&& 31) = 17
                                      · skip
                                        refine lv_tableIn (tgt := 680) (off := 648) hx hb dL_law_32 (by rw [w_19]; decide) (by rw [w_19]; decide) (by rw [w_19]; decide) (by decide) ?_
                                        exact lc_advice l hL C0 hK hT n hn5 oP hF cF aF wF hH rF hC bF nF oM mN mA mP mR mT mL mB cb cn cf f t1 t2 t3 t4 w1 w2 w3 w4 kp g ln pa kd bt nu x1 x2 x3 x4 y1 y2 y3 y4 od spt wa hs qn qa qp rf tx lt nb hLI _ _ _ hP hD hS hl kk
                                      · skip
                                        by_cases w_20 : ((xs (nI n).toNatClampNeg) &&& 31) = 18
                                        · skip
                                          refine lv_tableIn (tgt := 703) (off := 671) hx hb dL_law_32 (by rw [w_20]; decide) (by rw [w_20]; decide) (by rw [w_20]; decide) (by decide) ?_
                                          exact lc_count l hL C0 hK hT n hn5 oP hF cF aF wF hH rF hC bF nF oM mN mA mP mR mT mL mB cb cn cf f t1 t2 t3 t4 w1 w2 w3 w4 kp g ln pa kd bt nu x1 x2 x3 x4 y1 y2 y3 y4 od spt wa hs qn qa qp rf tx lt nb hLI _ _ _ hP hD hS hl kk
                                        · skip
                                          by_cases w_21 : ((xs (nI n).toNatClampNeg) &&& 31) = 19
                                          · skip
                                            refine lv_tableIn (tgt := 726) (off := 694) hx hb dL_law_32 (by rw [w_21]; decide) (by rw [w_21]; decide) (by rw [w_21]; decide) (by decide) ?_
                                            exact lc_type l hL C0 hK hT n hn5 oP hF cF aF wF hH rF hC bF nF oM mN mA mP mR mT mL mB cb cn cf f t1 t2 t3 t4 w1 w2 w3 w4 kp g ln pa kd bt nu x1 x2 x3 x4 y1 y2 y3 y4 od spt wa hs qn qa qp rf tx lt nb hLI _ _ _ hP hD hS hl kk
                                          · skip
                                            by_cases w_22 : ((xs (nI n).toNatClampNeg) &&& 31) = 20
                                            · skip
                                              refine lv_tableIn (tgt := 749) (off := 717) hx hb dL_law_32 (by rw [w_22]; decide) (by rw [w_22]; decide) (by rw [w_22]; decide) (by decide) ?_
                                              exact lc_wipes l hL C0 hK hT n hn5 oP hF cF aF wF hH rF hC bF nF oM mN mA mP mR mT mL mB cb cn cf f t1 t2 t3 t4 w1 w2 w3 w4 kp g ln pa kd bt nu x1 x2 x3 x4 y1 y2 y3 y4 od spt wa hs qn qa qp rf tx lt nb hLI _ _ _ hP hD hS hl kk
                                            · skip
                                              by_cases w_23 : ((xs (nI n).toNatClampNeg) &&& 31) = 21
                                              · skip
                                                refine lv_tableIn (tgt := 762) (off := 730) hx hb dL_law_32 (by rw [w_23]; decide) (by rw [w_23]; decide) (by rw [w_23]; decide) (by decide) ?_
                                                exact lc_does l hL C0 hK hT n hn5 oP hF cF aF wF hH rF hC bF nF oM mN mA mP mR mT mL mB cb cn cf f t1 t2 t3 t4 w1 w2 w3 w4 kp g ln pa kd bt nu x1 x2 x3 x4 y1 y2 y3 y4 od spt wa hs qn qa qp rf tx lt nb hLI _ _ _ hP hD hS hl kk
                                              · skip
                                                by_cases w_24 : ((xs (nI n).toNatClampNeg) &&& 31) = 22
                                                · skip
                                                  refine lv_tableIn (tgt := 775) (off := 743) hx hb dL_law_32 (by rw [w_24]; decide) (by rw [w_24]; decide) (by rw [w_24]; decide) (by decide) ?_
                                                  exact lc_back l hL C0 hK hT n hn5 oP hF cF aF wF hH rF hC bF nF oM mN mA mP mR mT mL mB cb cn cf f t1 t2 t3 t4 w1 w2 w3 w4 kp g ln pa kd bt nu x1 x2 x3 x4 y1 y2 y3 y4 od spt wa hs qn qa qp rf tx lt nb hLI _ _ _ hP hD hS hl kk
                                                · skip
                                                  by_cases w_25 : ((xs (nI n).toNatClampNeg) &&& 31) = 23
                                                  · skip
                                                    refine lv_tableIn (tgt := 788) (off := 756) hx hb dL_law_32 (by rw [w_25]; decide) (by rw [w_25]; decide) (by rw [w_25]; decide) (by decide) ?_
                                                    exact lc_told l hL C0 hK hT n hn5 oP hF cF aF wF hH rF hC bF nF oM mN mA mP mR mT mL mB cb cn cf f t1 t2 t3 t4 w1 w2 w3 w4 kp g ln pa kd bt nu x1 x2 x3 x4 y1 y2 y3 y4 od spt wa hs qn qa qp rf tx lt nb hLI _ _ _ hP hD hS hl kk
                                                  · skip
                                                    by_cases w_26 : ((xs (nI n).toNatClampNeg) &&& 31) = 24
                                                    · skip
                                                      refine lv_tableIn (tgt := 811) (off := 779) hx hb dL_law_32 (by rw [w_26]; decide) (by rw [w_26]; decide) (by rw [w_26]; decide) (by decide) ?_
                                                      exact lc_digest l hL C0 hK hT n hn5 oP hF cF aF wF hH rF hC bF nF oM mN mA mP mR mT mL mB cb cn cf f t1 t2 t3 t4 w1 w2 w3 w4 kp g ln pa kd bt nu x1 x2 x3 x4 y1 y2 y3 y4 od spt wa hs qn qa qp rf tx lt nb hLI _ _ _ hP hD hS hl kk
                                                    · skip
                                                      refine lv_tableOut (tgt := 825) hx hb dL_law_32 (lw_out w_2 w_3 w_4 w_5 w_6 w_7 w_8 w_9 w_10 w_11 w_12 w_13 w_14 w_15 w_16 w_17 w_18 w_19 w_20 w_21 w_22 w_23 w_24 w_25 w_26) (by decide) ?_
                                                      exact kk cb cn cf f t1 t2 t3 t4 w1 w2 w3 w4 kp g ln pa kd bt nu x1 x2 x3 x4 y1 y2 y3 y4 od spt wa hs qn qa qp rf tx lt nb _ _ _ hLI hP hD hS hl
