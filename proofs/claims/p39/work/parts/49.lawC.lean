set_option maxHeartbeats 4000000 in
set_option maxRecDepth 100000 in
theorem law_C {p : Program} {l : Launch} {e : Env} {ss : State} {m : MethodId} {args : Array Value} {below : List Frame} {meth : Method} {c : Code} {D : va_G} {cI cQ cZ : ClassId} {sc LL : Nat} {xs : Nat → Int32} {A : Nat → Prop} (hl0 : l.stackTraces = false) (F : CallFix p m c cL_law 31 ss args wsL_law RL) (hK : va_K D vwCl [(cI, .int), (cQ, .array .int), (cZ, .boolean)] ss) (hG : kG A ss) (hA : ∀ q, ss.heap.size ≤ q → A q) (hX : va_X sc LL xs ss ss.heap) (hbl : sc < ss.heap.size) (hbA : ¬ A sc) (hLL : LL ≤ 260) {x : Nat} {a b : Nat → Nat} {s : Nat} {t : Nat} {v : Int32} (ht : t < 10) (Q : State → Prop)
    (K : ∀ (c1 s1 : Nat) (f : Nat → Nat → Int32) (g : Nat → Nat → Int32) (q : St) (q2 : St) (ba : Nat) (ta : Nat) (Rb : List (Nat × Tp)) (Rt : List (Nat × Tk)) (sz : Nat) (pt : Nat) (zt : Nat) (ut : Nat) (fs : Nat → Int32) (fp : Nat → Int32) (fz : Nat → Int32) (fu : Nat → Int32), c1 ≤ 100 + 18000 * t + 4804 → s1 ≤ 1000 + 180000 * t + 45030 → stI q ≤ 181 * t + 180 → (rR f q) → (rQ q Rb Rt) → (okQ q) → (szR (stB q) (stB q).length fs) → (ptR (stT q) (stT q).length fp) → (zzR (stT q) (stT q).length fz) → (uuR q (stT q).length fu) → ∀ (H : Heap) (locs : List Loc), va_P D vwCl ([(s, .inr (4, [.int (nI (stI q)), .int (nI (stN q)), .int (stO q), .int (stV q), .int (nI (stG q)), .int (nI (stS q)), .int (stM q), .ref ba, .ref ta])), (ba, .inl (cQ, Rb.length, .inr (.inr (.inr (.inr (qf (ad Rb))))))), (ta, .inl (cQ, Rt.length, .inr (.inr (.inr (.inr (qf (ad Rt))))))), (sz, .inl (cI, (stB q).length, .inl fs)), (pt, .inl (cI, (stT q).length, .inl fp)), (zt, .inl (cZ, (stT q).length, .inl fz)), (ut, .inl (cI, (stT q).length, .inl fu))] ++ ((sT cI (Rb.map bq) (Rt.map tq)) ++ ((xA cI x a b f q) ++ ((xB cI b g q2) ++ [])))) H → va_D A ([(s, .inr (4, [.int (nI (stI q)), .int (nI (stN q)), .int (stO q), .int (stV q), .int (nI (stG q)), .int (nI (stS q)), .int (stM q), .ref ba, .ref ta])), (ba, .inl (cQ, Rb.length, .inr (.inr (.inr (.inr (qf (ad Rb))))))), (ta, .inl (cQ, Rt.length, .inr (.inr (.inr (.inr (qf (ad Rt))))))), (sz, .inl (cI, (stB q).length, .inl fs)), (pt, .inl (cI, (stT q).length, .inl fp)), (zt, .inl (cZ, (stT q).length, .inl fz)), (ut, .inl (cI, (stT q).length, .inl fu))] ++ ((sT cI (Rb.map bq) (Rt.map tq)) ++ ((xA cI x a b f q) ++ ((xB cI b g q2) ++ [])))) → va_S A ss.heap H locs → ∀ ls : Array Slot, lv_has ls 31 [(0, .ref sc), (1, .ref x), (2, .ref s), (3, .int (nI t)), (4, .int v), (5, .long (dgS q)), (7, .int (nI ((stB q).length))), (8, .int (nI (ns (stB q)))), (10, .int (nI (mxN (stB q) (stB q).length))), (11, .ref sz), (12, .int (nI ((stT q).length))), (13, .int (nI (ctT (stT q)))), (16, .ref pt), (17, .ref zt), (18, .ref ut)] → W p l e room_1 ss m args below meth c H locs c1 s1 Q (F0 m 618 ls [])) :
    ∀ (c0 s0 : Nat) (f : Nat → Nat → Int32) (g : Nat → Nat → Int32) (q : St) (q2 : St) (ba : Nat) (ta : Nat) (Rb : List (Nat × Tp)) (Rt : List (Nat × Tk)) (sz : Nat) (pt : Nat) (zt : Nat) (ut : Nat) (fs : Nat → Int32) (fp : Nat → Int32) (fz : Nat → Int32) (fu : Nat → Int32), c0 ≤ 100 + 18000 * t + 4804 → s0 ≤ 1000 + 180000 * t + 45030 → stI q ≤ 181 * t + 180 → (rR f q) → (rQ q Rb Rt) → (okQ q) → (szR (stB q) (stB q).length fs) → (ptR (stT q) (stT q).length fp) → (zzR (stT q) (stT q).length fz) → (uuR q (stT q).length fu) → ∀ (H : Heap) (locs : List Loc), va_P D vwCl ([(s, .inr (4, [.int (nI (stI q)), .int (nI (stN q)), .int (stO q), .int (stV q), .int (nI (stG q)), .int (nI (stS q)), .int (stM q), .ref ba, .ref ta])), (ba, .inl (cQ, Rb.length, .inr (.inr (.inr (.inr (qf (ad Rb))))))), (ta, .inl (cQ, Rt.length, .inr (.inr (.inr (.inr (qf (ad Rt))))))), (sz, .inl (cI, (stB q).length, .inl fs)), (pt, .inl (cI, (stT q).length, .inl fp)), (zt, .inl (cZ, (stT q).length, .inl fz)), (ut, .inl (cI, (stT q).length, .inl fu))] ++ ((sT cI (Rb.map bq) (Rt.map tq)) ++ ((xA cI x a b f q) ++ ((xB cI b g q2) ++ [])))) H → va_D A ([(s, .inr (4, [.int (nI (stI q)), .int (nI (stN q)), .int (stO q), .int (stV q), .int (nI (stG q)), .int (nI (stS q)), .int (stM q), .ref ba, .ref ta])), (ba, .inl (cQ, Rb.length, .inr (.inr (.inr (.inr (qf (ad Rb))))))), (ta, .inl (cQ, Rt.length, .inr (.inr (.inr (.inr (qf (ad Rt))))))), (sz, .inl (cI, (stB q).length, .inl fs)), (pt, .inl (cI, (stT q).length, .inl fp)), (zt, .inl (cZ, (stT q).length, .inl fz)), (ut, .inl (cI, (stT q).length, .inl fu))] ++ ((sT cI (Rb.map bq) (Rt.map tq)) ++ ((xA cI x a b f q) ++ ((xB cI b g q2) ++ [])))) → va_S A ss.heap H locs → ∀ ls : Array Slot, lv_has ls 31 [(0, .ref sc), (1, .ref x), (2, .ref s), (3, .int (nI t)), (4, .int v), (5, .long (dgS q)), (7, .int (nI ((stB q).length))), (8, .int (nI (ns (stB q)))), (10, .int (nI (mxN (stB q) (stB q).length))), (11, .ref sz), (12, .int (nI ((stT q).length))), (13, .int (nI (cnN (isT (stT q)) (stT q).length))), (14, .int (nI (spA (stT q) (stT q).length))), (15, .int (nI (ltP (stT q) (stT q).length))), (16, .ref pt), (17, .ref zt), (18, .ref ut)] → W p l e room_1 ss m args below meth c H locs c0 s0 Q (F0 m 541 ls []) := by
  intro c0 s0 f g q q2 ba ta Rb Rt sz pt zt ut fs fp fz fu hcl hsl hI0 hR hq hok hfs hfp hfz hfu H locs hP hD hS ls hl
  obtain ⟨hx, hb, hml, hown, hts⟩ := id F
  have hO := hok.1
  have hI : stI q < 900000 := by omega
  have hX9 := okQ_X hok (by omega)
  have hn12 := hO.2.1
  have hn6 := hO.2.2.2.1
  have hct := ctT_le hO
  have hsp := spT_le hO
  have o7 := hO.2.2.2.2.2.2
  have hns := ns_le hO.1 hO.2.1
  have hlB : Rb.length = (stB q).length := by rw [hq.1, sn_len]
  have hlT : Rt.length = (stT q).length := by rw [hq.2, sn_len]
  have ecc : cnN (isT (stT q)) (stT q).length = ctT (stT q) := rfl
  refine lv_iload hx hb dL_law_541 (lv_at hl 11 rfl) ?_
  refine k_top (v := nI (ctT (stT q))) (rfl) ?_
  refine lv_aload_n hx hb dL_law_543 rfl (lv_at hl 1 rfl) ?_
  refine kz_callX (As := []) (rest := [.int (nI (ctT (stT q)))]) F (c_ZX3_present l D cI x a b f q hR) gL_law_X3_present rfl (nA := 0) (by decide +kernel) rfl ⟨Nat.le_of_ble_eq_true rfl, Nat.le_of_ble_eq_true rfl⟩ hK hP hD hS hA hG (ci := 3) (q0 := 0) rfl rfl rfl zp_pn [0] rfl rfl hl.1 (Nat.le_of_ble_eq_true rfl) dL_law_544 ⟨(show c0 + 0 ≤ 908051 by omega), (show s0 + 0 ≤ 6377315 by omega)⟩ (fun r_1 u H locs hr_544 hP hD hS => ?_)
  try dsimp only at hr_544
  have hP := z_PS z_pnb hP
  have hD := z_DS z_pnb hD
  have hP : va_P D vwCl ([(s, .inr (4, [.int (nI (stI q)), .int (nI (stN q)), .int (stO q), .int (stV q), .int (nI (stG q)), .int (nI (stS q)), .int (stM q), .ref ba, .ref ta])), (ba, .inl (cQ, Rb.length, .inr (.inr (.inr (.inr (qf (ad Rb))))))), (ta, .inl (cQ, Rt.length, .inr (.inr (.inr (.inr (qf (ad Rt))))))), (sz, .inl (cI, (stB q).length, .inl fs)), (pt, .inl (cI, (stT q).length, .inl fp)), (zt, .inl (cZ, (stT q).length, .inl fz)), (ut, .inl (cI, (stT q).length, .inl fu))] ++ ((sT cI (Rb.map bq) (Rt.map tq)) ++ ((xA cI x a b f q) ++ ((xB cI b g q2) ++ [])))) H := hP
  have hD : va_D A ([(s, .inr (4, [.int (nI (stI q)), .int (nI (stN q)), .int (stO q), .int (stV q), .int (nI (stG q)), .int (nI (stS q)), .int (stM q), .ref ba, .ref ta])), (ba, .inl (cQ, Rb.length, .inr (.inr (.inr (.inr (qf (ad Rb))))))), (ta, .inl (cQ, Rt.length, .inr (.inr (.inr (.inr (qf (ad Rt))))))), (sz, .inl (cI, (stB q).length, .inl fs)), (pt, .inl (cI, (stT q).length, .inl fp)), (zt, .inl (cZ, (stT q).length, .inl fz)), (ut, .inl (cI, (stT q).length, .inl fu))] ++ ((sT cI (Rb.map bq) (Rt.map tq)) ++ ((xA cI x a b f q) ++ ((xB cI b g q2) ++ [])))) := hD
  refine W.eq (g2 := F0 m 547 ls [.int r_1, .int (nI (ctT (stT q)))]) rfl ?_
  refine W.widen (k := c0) (n := s0) (Nat.le_refl _) (Nat.le_refl _) ?_
  refine k_top (v := nI (ctT (stT q))) (hr_544) ?_
  refine k_cmp_ne (tgt := 616) hx hb (ctT (stT q)) (ctT (stT q)) rfl rfl (by omega) (by omega) dL_law_547 (by decide) (fun c_547 => ?_) (fun c_547 => ?_)
  · skip
    exact absurd rfl c_547
  · skip
    rcases Nat.eq_zero_or_pos (ctT (stT q)) with hc0 | hc0
    · skip
      refine lv_aload_n hx hb dL_law_550 rfl (lv_at hl 1 rfl) ?_
      refine kz_callX (As := []) (rest := []) F (c_ZX3_nextToGo l D cI x a b f q hR hO) gL_law_X3_nextToGo rfl (nA := 0) (by decide +kernel) rfl ⟨Nat.le_of_ble_eq_true rfl, Nat.le_of_ble_eq_true rfl⟩ hK hP hD hS hA hG (ci := 3) (q0 := 0) rfl rfl rfl zp_pn [0] rfl rfl hl.1 (Nat.le_of_ble_eq_true rfl) dL_law_551 ⟨(show c0 + 0 ≤ 908051 by omega), (show s0 + 0 ≤ 6377315 by omega)⟩ (fun r_2 u H locs hr_551 hP hD hS => ?_)
      try dsimp only at hr_551
      have hP := z_PS z_pnb hP
      have hD := z_DS z_pnb hD
      have hP : va_P D vwCl ([(s, .inr (4, [.int (nI (stI q)), .int (nI (stN q)), .int (stO q), .int (stV q), .int (nI (stG q)), .int (nI (stS q)), .int (stM q), .ref ba, .ref ta])), (ba, .inl (cQ, Rb.length, .inr (.inr (.inr (.inr (qf (ad Rb))))))), (ta, .inl (cQ, Rt.length, .inr (.inr (.inr (.inr (qf (ad Rt))))))), (sz, .inl (cI, (stB q).length, .inl fs)), (pt, .inl (cI, (stT q).length, .inl fp)), (zt, .inl (cZ, (stT q).length, .inl fz)), (ut, .inl (cI, (stT q).length, .inl fu))] ++ ((sT cI (Rb.map bq) (Rt.map tq)) ++ ((xA cI x a b f q) ++ ((xB cI b g q2) ++ [])))) H := hP
      have hD : va_D A ([(s, .inr (4, [.int (nI (stI q)), .int (nI (stN q)), .int (stO q), .int (stV q), .int (nI (stG q)), .int (nI (stS q)), .int (stM q), .ref ba, .ref ta])), (ba, .inl (cQ, Rb.length, .inr (.inr (.inr (.inr (qf (ad Rb))))))), (ta, .inl (cQ, Rt.length, .inr (.inr (.inr (.inr (qf (ad Rt))))))), (sz, .inl (cI, (stB q).length, .inl fs)), (pt, .inl (cI, (stT q).length, .inl fp)), (zt, .inl (cZ, (stT q).length, .inl fz)), (ut, .inl (cI, (stT q).length, .inl fu))] ++ ((sT cI (Rb.map bq) (Rt.map tq)) ++ ((xA cI x a b f q) ++ ((xB cI b g q2) ++ [])))) := hD
      refine W.eq (g2 := F0 m 554 ls [.int r_2]) rfl ?_
      refine W.widen (k := c0) (n := s0) (Nat.le_refl _) (Nat.le_refl _) ?_
      refine k_top (v := -1) (hr_551.trans (by rw [nt_none hc0]; rfl)) ?_
      refine lv_if_ge (tgt := 561) hx hb dL_law_554 (by decide) (fun c_554 => ?_) (fun c_554 => ?_)
      · skip
        exact absurd c_554 (by decide)
      · skip
        refine lv_iconst (v := nI 1) hx hb dL_law_557 (by decide +kernel) ?_
        refine lv_goto (tgt := 562) hx hb dL_law_558 (by decide) ?_
        refine lv_iload hx hb dL_law_562 (lv_at hl 11 rfl) ?_
        refine k_if_ne (tgt := 571) hx hb (cnN (isT (stT q)) (stT q).length) rfl (by omega) dL_law_564 (by decide) (fun c_564 => ?_) (fun c_564 => ?_)
        · skip
          exact absurd hc0 (by omega)
        · skip
          refine lv_iconst (v := nI 1) hx hb dL_law_567 (by decide +kernel) ?_
          refine lv_goto (tgt := 572) hx hb dL_law_568 (by decide) ?_
          refine k_cmp_ne (tgt := 616) hx hb 1 1 rfl rfl (by omega) (by omega) dL_law_572 (by decide) (fun c_572 => ?_) (fun c_572 => ?_)
          · exact absurd c_572 (by omega)
          · skip
            refine lv_iload hx hb dL_law_575 (lv_at hl 11 rfl) ?_
            refine k_if_le (tgt := 592) hx hb (cnN (isT (stT q)) (stT q).length) rfl (by omega) dL_law_577 (by decide) (fun c_577 => ?_) (fun c_577 => ?_)
            · skip
              refine lv_aload_n hx hb dL_law_592 rfl (lv_at hl 1 rfl) ?_
              refine kz_callX (As := []) (rest := []) F (c_ZX3_meanPatience l D cI x a b f q hR hO) gL_law_X3_meanPatience rfl (nA := 0) (by decide +kernel) rfl ⟨Nat.le_of_ble_eq_true rfl, Nat.le_of_ble_eq_true rfl⟩ hK hP hD hS hA hG (ci := 3) (q0 := 0) rfl rfl rfl zp_pn [0] rfl rfl hl.1 (Nat.le_of_ble_eq_true rfl) dL_law_593 ⟨(show c0 + 0 ≤ 908051 by omega), (show s0 + 0 ≤ 6377315 by omega)⟩ (fun r_3 u H locs hr_593 hP hD hS => ?_)
              try dsimp only at hr_593
              have hP := z_PS z_pnb hP
              have hD := z_DS z_pnb hD
              have hP : va_P D vwCl ([(s, .inr (4, [.int (nI (stI q)), .int (nI (stN q)), .int (stO q), .int (stV q), .int (nI (stG q)), .int (nI (stS q)), .int (stM q), .ref ba, .ref ta])), (ba, .inl (cQ, Rb.length, .inr (.inr (.inr (.inr (qf (ad Rb))))))), (ta, .inl (cQ, Rt.length, .inr (.inr (.inr (.inr (qf (ad Rt))))))), (sz, .inl (cI, (stB q).length, .inl fs)), (pt, .inl (cI, (stT q).length, .inl fp)), (zt, .inl (cZ, (stT q).length, .inl fz)), (ut, .inl (cI, (stT q).length, .inl fu))] ++ ((sT cI (Rb.map bq) (Rt.map tq)) ++ ((xA cI x a b f q) ++ ((xB cI b g q2) ++ [])))) H := hP
              have hD : va_D A ([(s, .inr (4, [.int (nI (stI q)), .int (nI (stN q)), .int (stO q), .int (stV q), .int (nI (stG q)), .int (nI (stS q)), .int (stM q), .ref ba, .ref ta])), (ba, .inl (cQ, Rb.length, .inr (.inr (.inr (.inr (qf (ad Rb))))))), (ta, .inl (cQ, Rt.length, .inr (.inr (.inr (.inr (qf (ad Rt))))))), (sz, .inl (cI, (stB q).length, .inl fs)), (pt, .inl (cI, (stT q).length, .inl fp)), (zt, .inl (cZ, (stT q).length, .inl fz)), (ut, .inl (cI, (stT q).length, .inl fu))] ++ ((sT cI (Rb.map bq) (Rt.map tq)) ++ ((xA cI x a b f q) ++ ((xB cI b g q2) ++ [])))) := hD
              refine W.eq (g2 := F0 m 596 ls [.double r_3]) rfl ?_
              refine W.widen (k := c0) (n := s0) (Nat.le_refl _) (Nat.le_refl _) ?_
              refine k_topD (v := mpS q) (hr_593) ?_
              refine lv_iload hx hb dL_law_596 (lv_at hl 11 rfl) ?_
              refine k_if_ne (tgt := 605) hx hb (cnN (isT (stT q)) (stT q).length) rfl (by omega) dL_law_598 (by decide) (fun c_598 => ?_) (fun c_598 => ?_)
              · skip
                exact absurd hc0 (by omega)
              · skip
                refine lv_dconst0 hx hb dL_law_601 ?_
                refine lv_goto (tgt := 612) hx hb dL_law_602 (by decide) ?_
                refine lv_dcmp hx hb dL_law_612 ?_
                refine k_top (v := nI 0) (mp_dc hO hc0) ?_
                refine k_if_eq (tgt := 618) hx hb 0 rfl (by omega) dL_law_613 (by decide) (fun c_613 => ?_) (fun c_613 => ?_)
                · skip
                  exact K c0 s0 f g q q2 ba ta Rb Rt sz pt zt ut fs fp fz fu (by omega) (by omega) hI0 hR hq hok hfs hfp hfz hfu _ _ (z_subP hP [0, 1, 2, 3, 4, 5, 6] (rfl)) (z_subD hD [0, 1, 2, 3, 4, 5, 6] (by decide) (rfl)) hS _ (lv_sub hl [0, 1, 2, 3, 4, 5, 6, 7, 8, 9, 10, 11, 14, 15, 16] (rfl))
                · exact absurd c_613 (by omega)
            · skip
              exact absurd hc0 (by omega)
    · skip
      refine lv_aload_n hx hb dL_law_550 rfl (lv_at hl 1 rfl) ?_
      refine kz_callX (As := []) (rest := []) F (c_ZX3_nextToGo l D cI x a b f q hR hO) gL_law_X3_nextToGo rfl (nA := 0) (by decide +kernel) rfl ⟨Nat.le_of_ble_eq_true rfl, Nat.le_of_ble_eq_true rfl⟩ hK hP hD hS hA hG (ci := 3) (q0 := 0) rfl rfl rfl zp_pn [0] rfl rfl hl.1 (Nat.le_of_ble_eq_true rfl) dL_law_551 ⟨(show c0 + 0 ≤ 908051 by omega), (show s0 + 0 ≤ 6377315 by omega)⟩ (fun r_4 u H locs hr_551 hP hD hS => ?_)
      try dsimp only at hr_551
      have hP := z_PS z_pnb hP
      have hD := z_DS z_pnb hD
      have hP : va_P D vwCl ([(s, .inr (4, [.int (nI (stI q)), .int (nI (stN q)), .int (stO q), .int (stV q), .int (nI (stG q)), .int (nI (stS q)), .int (stM q), .ref ba, .ref ta])), (ba, .inl (cQ, Rb.length, .inr (.inr (.inr (.inr (qf (ad Rb))))))), (ta, .inl (cQ, Rt.length, .inr (.inr (.inr (.inr (qf (ad Rt))))))), (sz, .inl (cI, (stB q).length, .inl fs)), (pt, .inl (cI, (stT q).length, .inl fp)), (zt, .inl (cZ, (stT q).length, .inl fz)), (ut, .inl (cI, (stT q).length, .inl fu))] ++ ((sT cI (Rb.map bq) (Rt.map tq)) ++ ((xA cI x a b f q) ++ ((xB cI b g q2) ++ [])))) H := hP
      have hD : va_D A ([(s, .inr (4, [.int (nI (stI q)), .int (nI (stN q)), .int (stO q), .int (stV q), .int (nI (stG q)), .int (nI (stS q)), .int (stM q), .ref ba, .ref ta])), (ba, .inl (cQ, Rb.length, .inr (.inr (.inr (.inr (qf (ad Rb))))))), (ta, .inl (cQ, Rt.length, .inr (.inr (.inr (.inr (qf (ad Rt))))))), (sz, .inl (cI, (stB q).length, .inl fs)), (pt, .inl (cI, (stT q).length, .inl fp)), (zt, .inl (cZ, (stT q).length, .inl fz)), (ut, .inl (cI, (stT q).length, .inl fu))] ++ ((sT cI (Rb.map bq) (Rt.map tq)) ++ ((xA cI x a b f q) ++ ((xB cI b g q2) ++ [])))) := hD
      refine W.eq (g2 := F0 m 554 ls [.int r_4]) rfl ?_
      refine W.widen (k := c0) (n := s0) (Nat.le_refl _) (Nat.le_refl _) ?_
      obtain ⟨b9, hb9, eb9, hbx9, hbp9⟩ := nt_spec hc0
      refine k_top (v := nI b9) (hr_551.trans (by rw [eb9]; rfl)) ?_
      refine k_if_ge (tgt := 561) hx hb b9 rfl (by omega) dL_law_554 (by decide) (fun c_554 => ?_) (fun c_554 => ?_)
      · skip
        refine lv_iconst (v := nI 0) hx hb dL_law_561 (by decide +kernel) ?_
        refine lv_iload hx hb dL_law_562 (lv_at hl 11 rfl) ?_
        refine k_if_ne (tgt := 571) hx hb (cnN (isT (stT q)) (stT q).length) rfl (by omega) dL_law_564 (by decide) (fun c_564 => ?_) (fun c_564 => ?_)
        · skip
          refine lv_iconst (v := nI 0) hx hb dL_law_571 (by decide +kernel) ?_
          refine k_cmp_ne (tgt := 616) hx hb 0 0 rfl rfl (by omega) (by omega) dL_law_572 (by decide) (fun c_572 => ?_) (fun c_572 => ?_)
          · exact absurd c_572 (by omega)
          · skip
            refine lv_iload hx hb dL_law_575 (lv_at hl 11 rfl) ?_
            refine k_if_le (tgt := 592) hx hb (cnN (isT (stT q)) (stT q).length) rfl (by omega) dL_law_577 (by decide) (fun c_577 => ?_) (fun c_577 => ?_)
            · skip
              exact absurd hc0 (by omega)
            · skip
              refine lv_aload hx hb dL_law_580 (lv_at hl 14 rfl) ?_
              refine lv_aload_n hx hb dL_law_582 rfl (lv_at hl 1 rfl) ?_
              refine kz_callX (As := []) (rest := [.ref pt]) F (c_ZX3_nextToGo l D cI x a b f q hR hO) gL_law_X3_nextToGo rfl (nA := 0) (by decide +kernel) rfl ⟨Nat.le_of_ble_eq_true rfl, Nat.le_of_ble_eq_true rfl⟩ hK hP hD hS hA hG (ci := 3) (q0 := 0) rfl rfl rfl zp_pn [0] rfl rfl hl.1 (Nat.le_of_ble_eq_true rfl) dL_law_583 ⟨(show c0 + 0 ≤ 908051 by omega), (show s0 + 0 ≤ 6377315 by omega)⟩ (fun r_5 u H locs hr_583 hP hD hS => ?_)
              try dsimp only at hr_583
              have hP := z_PS z_pnb hP
              have hD := z_DS z_pnb hD
              have hP : va_P D vwCl ([(s, .inr (4, [.int (nI (stI q)), .int (nI (stN q)), .int (stO q), .int (stV q), .int (nI (stG q)), .int (nI (stS q)), .int (stM q), .ref ba, .ref ta])), (ba, .inl (cQ, Rb.length, .inr (.inr (.inr (.inr (qf (ad Rb))))))), (ta, .inl (cQ, Rt.length, .inr (.inr (.inr (.inr (qf (ad Rt))))))), (sz, .inl (cI, (stB q).length, .inl fs)), (pt, .inl (cI, (stT q).length, .inl fp)), (zt, .inl (cZ, (stT q).length, .inl fz)), (ut, .inl (cI, (stT q).length, .inl fu))] ++ ((sT cI (Rb.map bq) (Rt.map tq)) ++ ((xA cI x a b f q) ++ ((xB cI b g q2) ++ [])))) H := hP
              have hD : va_D A ([(s, .inr (4, [.int (nI (stI q)), .int (nI (stN q)), .int (stO q), .int (stV q), .int (nI (stG q)), .int (nI (stS q)), .int (stM q), .ref ba, .ref ta])), (ba, .inl (cQ, Rb.length, .inr (.inr (.inr (.inr (qf (ad Rb))))))), (ta, .inl (cQ, Rt.length, .inr (.inr (.inr (.inr (qf (ad Rt))))))), (sz, .inl (cI, (stB q).length, .inl fs)), (pt, .inl (cI, (stT q).length, .inl fp)), (zt, .inl (cZ, (stT q).length, .inl fz)), (ut, .inl (cI, (stT q).length, .inl fu))] ++ ((sT cI (Rb.map bq) (Rt.map tq)) ++ ((xA cI x a b f q) ++ ((xB cI b g q2) ++ [])))) := hD
              refine W.eq (g2 := F0 m 586 ls [.int r_5, .ref pt]) rfl ?_
              refine W.widen (k := c0) (n := s0) (Nat.le_refl _) (Nat.le_refl _) ?_
              refine k_top (v := nI b9) (hr_583.trans (by rw [eb9]; rfl)) ?_
              refine k_iald hx hb hK hP 4 0 rfl rfl b9 (rfl) (by omega) (by omega) dL_law_586 ?_
              refine k_top (v := nI (ltP (stT q) (stT q).length)) ((hfp b9 hb9).trans (by rw [hbp9])) ?_
              refine lv_iload hx hb dL_law_587 (lv_at hl 13 rfl) ?_
              refine k_cmp_ne (tgt := 616) hx hb (ltP (stT q) (stT q).length) (ltP (stT q) (stT q).length) rfl rfl (by have := ltP_le hO.2.2.1 (Nat.le_refl _); omega) (by have := ltP_le hO.2.2.1 (Nat.le_refl _); omega) dL_law_589 (by decide) (fun c_589 => ?_) (fun c_589 => ?_)
              · skip
                exact absurd rfl c_589
              · skip
                refine lv_aload_n hx hb dL_law_592 rfl (lv_at hl 1 rfl) ?_
                refine kz_callX (As := []) (rest := []) F (c_ZX3_meanPatience l D cI x a b f q hR hO) gL_law_X3_meanPatience rfl (nA := 0) (by decide +kernel) rfl ⟨Nat.le_of_ble_eq_true rfl, Nat.le_of_ble_eq_true rfl⟩ hK hP hD hS hA hG (ci := 3) (q0 := 0) rfl rfl rfl zp_pn [0] rfl rfl hl.1 (Nat.le_of_ble_eq_true rfl) dL_law_593 ⟨(show c0 + 0 ≤ 908051 by omega), (show s0 + 0 ≤ 6377315 by omega)⟩ (fun r_6 u H locs hr_593 hP hD hS => ?_)
                try dsimp only at hr_593
                have hP := z_PS z_pnb hP
                have hD := z_DS z_pnb hD
                have hP : va_P D vwCl ([(s, .inr (4, [.int (nI (stI q)), .int (nI (stN q)), .int (stO q), .int (stV q), .int (nI (stG q)), .int (nI (stS q)), .int (stM q), .ref ba, .ref ta])), (ba, .inl (cQ, Rb.length, .inr (.inr (.inr (.inr (qf (ad Rb))))))), (ta, .inl (cQ, Rt.length, .inr (.inr (.inr (.inr (qf (ad Rt))))))), (sz, .inl (cI, (stB q).length, .inl fs)), (pt, .inl (cI, (stT q).length, .inl fp)), (zt, .inl (cZ, (stT q).length, .inl fz)), (ut, .inl (cI, (stT q).length, .inl fu))] ++ ((sT cI (Rb.map bq) (Rt.map tq)) ++ ((xA cI x a b f q) ++ ((xB cI b g q2) ++ [])))) H := hP
                have hD : va_D A ([(s, .inr (4, [.int (nI (stI q)), .int (nI (stN q)), .int (stO q), .int (stV q), .int (nI (stG q)), .int (nI (stS q)), .int (stM q), .ref ba, .ref ta])), (ba, .inl (cQ, Rb.length, .inr (.inr (.inr (.inr (qf (ad Rb))))))), (ta, .inl (cQ, Rt.length, .inr (.inr (.inr (.inr (qf (ad Rt))))))), (sz, .inl (cI, (stB q).length, .inl fs)), (pt, .inl (cI, (stT q).length, .inl fp)), (zt, .inl (cZ, (stT q).length, .inl fz)), (ut, .inl (cI, (stT q).length, .inl fu))] ++ ((sT cI (Rb.map bq) (Rt.map tq)) ++ ((xA cI x a b f q) ++ ((xB cI b g q2) ++ [])))) := hD
                refine W.eq (g2 := F0 m 596 ls [.double r_6]) rfl ?_
                refine W.widen (k := c0) (n := s0) (Nat.le_refl _) (Nat.le_refl _) ?_
                refine k_topD (v := mpS q) (hr_593) ?_
                refine lv_iload hx hb dL_law_596 (lv_at hl 11 rfl) ?_
                refine k_if_ne (tgt := 605) hx hb (cnN (isT (stT q)) (stT q).length) rfl (by omega) dL_law_598 (by decide) (fun c_598 => ?_) (fun c_598 => ?_)
                · skip
                  refine lv_iload hx hb dL_law_605 (lv_at hl 12 rfl) ?_
                  refine k_top (v := nI (spT (stT q))) (congrArg nI (lw_all hok)) ?_
                  refine lv_i2d hx hb dL_law_607 ?_
                  refine lv_iload hx hb dL_law_608 (lv_at hl 11 rfl) ?_
                  refine lv_i2d hx hb dL_law_610 ?_
                  refine lv_ddiv hx hb dL_law_611 (mp_ok hO hc0) ?_
                  refine lv_dcmp hx hb dL_law_612 ?_
                  refine k_top (v := nI 0) (mp_dd hO hc0) ?_
                  refine k_if_eq (tgt := 618) hx hb 0 rfl (by omega) dL_law_613 (by decide) (fun c_613 => ?_) (fun c_613 => ?_)
                  · skip
                    exact K c0 s0 f g q q2 ba ta Rb Rt sz pt zt ut fs fp fz fu (by omega) (by omega) hI0 hR hq hok hfs hfp hfz hfu _ _ (z_subP hP [0, 1, 2, 3, 4, 5, 6] (rfl)) (z_subD hD [0, 1, 2, 3, 4, 5, 6] (by decide) (rfl)) hS _ (lv_sub hl [0, 1, 2, 3, 4, 5, 6, 7, 8, 9, 10, 11, 14, 15, 16] (rfl))
                  · exact absurd c_613 (by omega)
                · skip
                  exact absurd hc0 (by omega)
        · skip
          exact absurd hc0 (by omega)
      · exact c_554.elim
