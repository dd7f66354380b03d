set_option maxRecDepth 100000 in
set_option maxHeartbeats 8000000 in
theorem law_loop {p : Program} {l : Launch} {e : Env} {s : State} {m : MethodId} {below : List Frame} {meth : Method} {c : Code} {dC : Nat → ClassId} {dI : Nat → Nat → Nat} {b L : Nat} {xs : Nat → Int32} {ox : Nat} {jb : Nat} {ji : Nat} {jd : Nat} {je : Nat} {jg : Nat} {qpa : Nat} {jt : Nat} {jr : Nat} {j1 : Nat} {j2 : Nat} {qsa : Nat} {aq0 : Nat} {aq1 : Nat} {aq2 : Nat} {aq3 : Nat} {aq4 : Nat} {aq5 : Nat} {aq6 : Nat} {ak0 : ClassId} {ak1 : ClassId} {ak2 : ClassId} {ak3 : ClassId} {ak4 : ClassId} {ak5 : ClassId} {ak6 : ClassId} {iq0 : Nat} {iq1 : Nat} {iq2 : Nat} {iq3 : Nat} {iq4 : Nat} {iq5 : Nat} {iq6 : Nat} {ik0 : ClassId} {ik1 : ClassId} {ik2 : ClassId} {ik3 : ClassId} {ik4 : ClassId} {ik5 : ClassId} {ik6 : ClassId} {dq : Nat} {kd : ClassId} {eq : Nat} {ke : ClassId} {qw : Nat} {qt : Nat} {kw : ClassId} {kt : ClassId} {kpa : ClassId} {fpa : Nat → Option Nat} {pp0 : Nat} {pb0 : Nat} {pn0 : Nat} {kpb0 : ClassId} {kpn0 : ClassId} {pp1 : Nat} {pb1 : Nat} {pn1 : Nat} {kpb1 : ClassId} {kpn1 : ClassId} {pp2 : Nat} {pb2 : Nat} {pn2 : Nat} {kpb2 : ClassId} {kpn2 : ClassId} {pp3 : Nat} {pb3 : Nat} {pn3 : Nat} {kpb3 : ClassId} {kpn3 : ClassId} {tb : Nat} {ktb : ClassId} {qo : Nat} {ko : ClassId} {qm1 : Nat} {qh1 : Nat} {qk1 : Nat} {qf1 : Nat} {km1 : ClassId} {kh1 : ClassId} {kk1 : ClassId} {fo1 : Nat → Option Nat} {ro0_1 : Nat} {kr0_1 : ClassId} {ro1_1 : Nat} {kr1_1 : ClassId} {ro2_1 : Nat} {kr2_1 : ClassId} {ro3_1 : Nat} {kr3_1 : ClassId} {ro4_1 : Nat} {kr4_1 : ClassId} {ro5_1 : Nat} {kr5_1 : ClassId} {ro6_1 : Nat} {kr6_1 : ClassId} {ro7_1 : Nat} {kr7_1 : ClassId} {ro8_1 : Nat} {kr8_1 : ClassId} {kf1 : ClassId} {jk : Nat} {qm2 : Nat} {qh2 : Nat} {qk2 : Nat} {qf2 : Nat} {km2 : ClassId} {kh2 : ClassId} {kk2 : ClassId} {fo2 : Nat → Option Nat} {ro0_2 : Nat} {kr0_2 : ClassId} {ro1_2 : Nat} {kr1_2 : ClassId} {ro2_2 : Nat} {kr2_2 : ClassId} {ro3_2 : Nat} {kr3_2 : ClassId} {ro4_2 : Nat} {kr4_2 : ClassId} {ro5_2 : Nat} {kr5_2 : ClassId} {ro6_2 : Nat} {kr6_2 : ClassId} {ro7_2 : Nat} {kr7_2 : ClassId} {ro8_2 : Nat} {kr8_2 : ClassId} {kf2 : ClassId} {tq0 : Nat} {tq1 : Nat} {tq2 : Nat} {tq3 : Nat} {tq4 : Nat} {tq5 : Nat} {tq6 : Nat} {tk0 : ClassId} {tk1 : ClassId} {tk2 : ClassId} {tk3 : ClassId} {tk4 : ClassId} {tk5 : ClassId} {tk6 : ClassId} {ksa : ClassId} {fsa : Nat → Option Nat} {s0 : Nat} {si0 : Nat} {ksi0 : ClassId} {s1 : Nat} {si1 : Nat} {ksi1 : ClassId} {s2 : Nat} {si2 : Nat} {ksi2 : ClassId} {s3 : Nat} {si3 : Nat} {ksi3 : ClassId} {om : Nat} {q_s : Nat} {q_thought : Nat} {q_image : Nat} {q_tape : Nat} {q_texts : Nat} {q_sizes : Nat} {q_imageTexts : Nat} {q_imageSizes : Nat} {q_held : Nat} {q_marks : Nat} {q_trace : Nat} {q_keptBalances : Nat} {q_keptFees : Nat} {q_way : Nat} {q_sorts : Nat} {q_rowMany : Nat} {q_items : Nat} {q_moved : Nat} {k_s : ClassId} {k_thought : ClassId} {k_image : ClassId} {k_tape : ClassId} {k_texts : ClassId} {k_sizes : ClassId} {k_imageTexts : ClassId} {k_imageSizes : ClassId} {k_held : ClassId} {k_marks : ClassId} {k_trace : ClassId} {k_keptBalances : ClassId} {k_keptFees : ClassId} {k_way : ClassId} {k_sorts : ClassId} {k_rowMany : ClassId} {k_items : ClassId} {k_moved : ClassId} (hL : L ≤ 3584) (C0 : lw_At p s m meth c b L xs) (vpa0 : fpa 0 = some pp0) (vpa1 : fpa 1 = some pp1) (vpa2 : fpa 2 = some pp2) (vpa3 : fpa 3 = some pp3) (vsa0 : fsa 0 = some s0) (vsa1 : fsa 1 = some s1) (vsa2 : fsa 2 = some s2) (vsa3 : fsa 3 = some s3) (vx1_0 : fo1 0 = some ro0_1) (vx1_1 : fo1 1 = some ro1_1) (vx1_2 : fo1 2 = some ro2_1) (vx1_3 : fo1 3 = some ro3_1) (vx1_4 : fo1 4 = some ro4_1) (vx1_5 : fo1 5 = some ro5_1) (vx1_6 : fo1 6 = some ro6_1) (vx1_7 : fo1 7 = some ro7_1) (vx1_8 : fo1 8 = some ro8_1) (vx2_0 : fo2 0 = some ro0_2) (vx2_1 : fo2 1 = some ro1_2) (vx2_2 : fo2 2 = some ro2_2) (vx2_3 : fo2 3 = some ro3_2) (vx2_4 : fo2 4 = some ro4_2) (vx2_5 : fo2 5 = some ro5_2) (vx2_6 : fo2 6 = some ro6_2) (vx2_7 : fo2 7 = some ro7_2) (vx2_8 : fo2 8 = some ro8_2) : ∀ (n : Nat) (i : Int32), 0 ≤ i.toInt → i.toInt ≤ 4000 → 4000 - i.toInt < (n : Int) → LPX9 p l e s m below meth c dC dI b ox jb ji jd je jg qpa jt jr j1 j2 qsa aq0 aq1 aq2 aq3 aq4 aq5 aq6 ak0 ak1 ak2 ak3 ak4 ak5 ak6 iq0 iq1 iq2 iq3 iq4 iq5 iq6 ik0 ik1 ik2 ik3 ik4 ik5 ik6 dq kd eq ke qw qt kw kt kpa fpa pp0 pb0 pn0 kpb0 kpn0 pp1 pb1 pn1 kpb1 kpn1 pp2 pb2 pn2 kpb2 kpn2 pp3 pb3 pn3 kpb3 kpn3 tb ktb qo ko qm1 qh1 qk1 qf1 km1 kh1 kk1 fo1 ro0_1 kr0_1 ro1_1 kr1_1 ro2_1 kr2_1 ro3_1 kr3_1 ro4_1 kr4_1 ro5_1 kr5_1 ro6_1 kr6_1 ro7_1 kr7_1 ro8_1 kr8_1 kf1 jk qm2 qh2 qk2 qf2 km2 kh2 kk2 fo2 ro0_2 kr0_2 ro1_2 kr1_2 ro2_2 kr2_2 ro3_2 kr3_2 ro4_2 kr4_2 ro5_2 kr5_2 ro6_2 kr6_2 ro7_2 kr7_2 ro8_2 kr8_2 kf2 tq0 tq1 tq2 tq3 tq4 tq5 tq6 tk0 tk1 tk2 tk3 tk4 tk5 tk6 ksa fsa s0 si0 ksi0 s1 si1 ksi1 s2 si2 ksi2 s3 si3 ksi3 om q_s q_thought q_image q_tape q_texts q_sizes q_imageTexts q_imageSizes q_held q_marks q_trace q_keptBalances q_keptFees q_way q_sorts q_rowMany q_items q_moved k_s k_thought k_image k_tape k_texts k_sizes k_imageTexts k_imageSizes k_held k_marks k_trace k_keptBalances k_keptFees k_way k_sorts k_rowMany k_items k_moved i := by
  intro n
  induction n with
  | zero => intro i h1 h2 h3; exfalso; omega
  | succ n ih =>
    intro i h1 h2 h3 pcn ipn aacc afees amis abel aref acau ag0 ag1 ag2 ag3 ag4 ag5 ag6 iacc ifees imis ibel iref icau ig0 ig1 ig2 ig3 ig4 ig5 ig6 fd fe wl fw ft ps0 fpb0 fpn0 ps1 fpb1 fpn1 ps2 fpb2 fpn2 ps3 fpb3 fpn3 tn ftb op lp fa oldp fo mc1 bg1 oq1 fm1 fh1 fr0_1 fr1_1 fr2_1 fr3_1 fr4_1 fr5_1 fr6_1 fr7_1 fr8_1 ff1 mc2 bg2 oq2 fm2 fh2 fr0_2 fr1_2 fr2_2 fr3_2 fr4_2 fr5_2 fr6_2 fr7_2 fr8_2 ff2 tacc tfees tmis tbel tref tcau tg0 tg1 tg2 tg3 tg4 tg5 tg6 so0 sn0 fsi0 so1 sn1 fsi1 so2 sn2 fsi2 so3 sn3 fsi3 v_fees v_thoughtFees v_imageFees v_hasImage v_taped v_programs v_imagePrograms v_here v_open v_running v_begun v_markMany v_traced v_deep f_s f_thought f_image f_tape f_texts f_sizes f_imageTexts f_imageSizes f_held f_marks f_trace f_keptBalances f_keptFees f_way f_sorts f_rowMany f_items f_moved hiv H locs hK hP hD hS ls hl
    obtain ⟨hx, hb, hr, hml, hown, hts, hX, hbl, hlocks, hgv⟩ := id C0
    have hA : ∀ q : Nat, s.heap.size ≤ q → (fun q : Nat => s.heap.size ≤ q) q := fun _ h => h
    have hbA : ¬ (fun q : Nat => s.heap.size ≤ q) b := Nat.not_le.mpr hbl
    have k_0 : (0 : Int32).toInt = 0 := by decide
    have k_1 : (1 : Int32).toInt = 1 := by decide
    have k_2 : (2 : Int32).toInt = 2 := by decide
    have k_3 : (3 : Int32).toInt = 3 := by decide
    have k_4 : (4 : Int32).toInt = 4 := by decide
    have k_5 : (5 : Int32).toInt = 5 := by decide
    have k_6 : (6 : Int32).toInt = 6 := by decide
    have k_7 : (7 : Int32).toInt = 7 := by decide
    have k_8 : (8 : Int32).toInt = 8 := by decide
    have k_9 : (9 : Int32).toInt = 9 := by decide
    have k_10 : (10 : Int32).toInt = 10 := by decide
    have k_11 : (11 : Int32).toInt = 11 := by decide
    have k_12 : (12 : Int32).toInt = 12 := by decide
    have k_13 : (13 : Int32).toInt = 13 := by decide
    have k_14 : (14 : Int32).toInt = 14 := by decide
    have k_15 : (15 : Int32).toInt = 15 := by decide
    have k_16 : (16 : Int32).toInt = 16 := by decide
    have k_17 : (17 : Int32).toInt = 17 := by decide
    have k_18 : (18 : Int32).toInt = 18 := by decide
    have k_19 : (19 : Int32).toInt = 19 := by decide
    have k_20 : (20 : Int32).toInt = 20 := by decide
    have k_21 : (21 : Int32).toInt = 21 := by decide
    have k_22 : (22 : Int32).toInt = 22 := by decide
    have k_23 : (23 : Int32).toInt = 23 := by decide
    have k_24 : (24 : Int32).toInt = 24 := by decide
    have k_25 : (25 : Int32).toInt = 25 := by decide
    have k_31 : (31 : Int32).toInt = 31 := by decide
    refine lv_iload_n hx hb dL_law_18 rfl (lv_at hl 0 rfl) ?_
    refine lv_aload_n hx hb dL_law_19 rfl (lv_at hl 3 rfl) ?_
    refine va_slen hx hb hX hbl hbA hS dL_law_20 ?_
    refine lv_topi (fun z1 e_z1 => ?_)
    have t_z1 : z1.toInt = (L : Int) := by rw [e_z1]; exact nI_toInt (by omega)
    refine lv_bipush (v := 7) hx hb dL_law_21 (by decide) ?_
    refine lv_isub hx hb dL_law_23 ?_
    refine lv_topi (fun z2 e_z2 => ?_)
    (first | have t_z2 := i_sub e_z2 (by omega) (by omega) | skip)
    refine lv_icmp_gt (tgt := 1054) hx hb dL_law_24 (by decide) (fun c3 => ?_) (fun c3 => ?_)
    · skip
      have f_c3 := i_lt c3
      refine lv_iconst (v := 1) hx hb dL_law_1054 (by decide) ?_
      refine va_forget (fun q hq => hS.2.2 q hq) ?_
      refine W.widen (k := 600000) (n := 7302250) (Nat.le_of_ble_eq_true rfl) (Nat.le_of_ble_eq_true rfl) ?_
      exact lw_ret hx hb hr hlocks dL_law_1055
    · skip
      have f_c3 := i_nlt c3
      refine lv_aload_n hx hb dL_law_27 rfl (lv_at hl 3 rfl) ?_
      refine lv_iload_n hx hb dL_law_28 rfl (lv_at hl 0 rfl) ?_
      refine va_sld hx hb hX hbl hbA hS (vp_in_iff.mpr ⟨by omega, by omega⟩) dL_law_29 ?_
      refine lv_topi (fun z4 e_z4 => ?_)
      refine lv_bipush (v := 31) hx hb dL_law_30 (by decide) ?_
      refine lv_iand hx hb dL_law_32 ?_
      refine lv_topi (fun z5 e_z5 => ?_)
      rcases Decidable.em (z5 = 0) with c6 | c6
      · refine lv_tableIn (off := 119) (tgt := 152) hx hb dL_law_33 (by rw [c6]; decide) (by rw [c6]; decide) (by rw [c6]; decide) (by decide) ?_
        exact law_case_0 hL C0 vpa0 vpa1 vpa2 vpa3 vsa0 vsa1 vsa2 vsa3 vx1_0 vx1_1 vx1_2 vx1_3 vx1_4 vx1_5 vx1_6 vx1_7 vx1_8 vx2_0 vx2_1 vx2_2 vx2_3 vx2_4 vx2_5 vx2_6 vx2_7 vx2_8 hiv h1 (by omega) (fun j hj => ih j (by omega) (by omega) (by omega)) hK hP hD hS hl
      have f_c6 := i_ne c6
      rcases Decidable.em (z5 = 1) with c7 | c7
      · refine lv_tableIn (off := 152) (tgt := 185) hx hb dL_law_33 (by rw [c7]; decide) (by rw [c7]; decide) (by rw [c7]; decide) (by decide) ?_
        exact law_case_1 hL C0 vpa0 vpa1 vpa2 vpa3 vsa0 vsa1 vsa2 vsa3 vx1_0 vx1_1 vx1_2 vx1_3 vx1_4 vx1_5 vx1_6 vx1_7 vx1_8 vx2_0 vx2_1 vx2_2 vx2_3 vx2_4 vx2_5 vx2_6 vx2_7 vx2_8 hiv h1 (by omega) (fun j hj => ih j (by omega) (by omega) (by omega)) hK hP hD hS hl
      have f_c7 := i_ne c7
      rcases Decidable.em (z5 = 2) with c8 | c8
      · refine lv_tableIn (off := 195) (tgt := 228) hx hb dL_law_33 (by rw [c8]; decide) (by rw [c8]; decide) (by rw [c8]; decide) (by decide) ?_
        exact law_case_2 hL C0 vpa0 vpa1 vpa2 vpa3 vsa0 vsa1 vsa2 vsa3 vx1_0 vx1_1 vx1_2 vx1_3 vx1_4 vx1_5 vx1_6 vx1_7 vx1_8 vx2_0 vx2_1 vx2_2 vx2_3 vx2_4 vx2_5 vx2_6 vx2_7 vx2_8 hiv h1 (by omega) (fun j hj => ih j (by omega) (by omega) (by omega)) hK hP hD hS hl
      have f_c8 := i_ne c8
      rcases Decidable.em (z5 = 3) with c9 | c9
      · refine lv_tableIn (off := 244) (tgt := 277) hx hb dL_law_33 (by rw [c9]; decide) (by rw [c9]; decide) (by rw [c9]; decide) (by decide) ?_
        exact law_case_3 hL C0 vpa0 vpa1 vpa2 vpa3 vsa0 vsa1 vsa2 vsa3 vx1_0 vx1_1 vx1_2 vx1_3 vx1_4 vx1_5 vx1_6 vx1_7 vx1_8 vx2_0 vx2_1 vx2_2 vx2_3 vx2_4 vx2_5 vx2_6 vx2_7 vx2_8 hiv h1 (by omega) (fun j hj => ih j (by omega) (by omega) (by omega)) hK hP hD hS hl
      have f_c9 := i_ne c9
      rcases Decidable.em (z5 = 4) with c10 | c10
      · refine lv_tableIn (off := 277) (tgt := 310) hx hb dL_law_33 (by rw [c10]; decide) (by rw [c10]; decide) (by rw [c10]; decide) (by decide) ?_
        exact law_case_4 hL C0 vpa0 vpa1 vpa2 vpa3 vsa0 vsa1 vsa2 vsa3 vx1_0 vx1_1 vx1_2 vx1_3 vx1_4 vx1_5 vx1_6 vx1_7 vx1_8 vx2_0 vx2_1 vx2_2 vx2_3 vx2_4 vx2_5 vx2_6 vx2_7 vx2_8 hiv h1 (by omega) (fun j hj => ih j (by omega) (by omega) (by omega)) hK hP hD hS hl
      have f_c10 := i_ne c10
      rcases Decidable.em (z5 = 5) with c11 | c11
      · refine lv_tableIn (off := 310) (tgt := 343) hx hb dL_law_33 (by rw [c11]; decide) (by rw [c11]; decide) (by rw [c11]; decide) (by decide) ?_
        exact law_case_5 hL C0 vpa0 vpa1 vpa2 vpa3 vsa0 vsa1 vsa2 vsa3 vx1_0 vx1_1 vx1_2 vx1_3 vx1_4 vx1_5 vx1_6 vx1_7 vx1_8 vx2_0 vx2_1 vx2_2 vx2_3 vx2_4 vx2_5 vx2_6 vx2_7 vx2_8 hiv h1 (by omega) (fun j hj => ih j (by omega) (by omega) (by omega)) hK hP hD hS hl
      have f_c11 := i_ne c11
      rcases Decidable.em (z5 = 6) with c12 | c12
      · refine lv_tableIn (off := 333) (tgt := 366) hx hb dL_law_33 (by rw [c12]; decide) (by rw [c12]; decide) (by rw [c12]; decide) (by decide) ?_
        exact law_case_6 hL C0 vpa0 vpa1 vpa2 vpa3 vsa0 vsa1 vsa2 vsa3 vx1_0 vx1_1 vx1_2 vx1_3 vx1_4 vx1_5 vx1_6 vx1_7 vx1_8 vx2_0 vx2_1 vx2_2 vx2_3 vx2_4 vx2_5 vx2_6 vx2_7 vx2_8 hiv h1 (by omega) (fun j hj => ih j (by omega) (by omega) (by omega)) hK hP hD hS hl
      have f_c12 := i_ne c12
      rcases Decidable.em (z5 = 7) with c13 | c13
      · refine lv_tableIn (off := 356) (tgt := 389) hx hb dL_law_33 (by rw [c13]; decide) (by rw [c13]; decide) (by rw [c13]; decide) (by decide) ?_
        exact law_case_7 hL C0 vpa0 vpa1 vpa2 vpa3 vsa0 vsa1 vsa2 vsa3 vx1_0 vx1_1 vx1_2 vx1_3 vx1_4 vx1_5 vx1_6 vx1_7 vx1_8 vx2_0 vx2_1 vx2_2 vx2_3 vx2_4 vx2_5 vx2_6 vx2_7 vx2_8 hiv h1 (by omega) (fun j hj => ih j (by omega) (by omega) (by omega)) hK hP hD hS hl
      have f_c13 := i_ne c13
      rcases Decidable.em (z5 = 8) with c14 | c14
      · refine lv_tableIn (off := 389) (tgt := 422) hx hb dL_law_33 (by rw [c14]; decide) (by rw [c14]; decide) (by rw [c14]; decide) (by decide) ?_
        exact law_case_8 hL C0 vpa0 vpa1 vpa2 vpa3 vsa0 vsa1 vsa2 vsa3 vx1_0 vx1_1 vx1_2 vx1_3 vx1_4 vx1_5 vx1_6 vx1_7 vx1_8 vx2_0 vx2_1 vx2_2 vx2_3 vx2_4 vx2_5 vx2_6 vx2_7 vx2_8 hiv h1 (by omega) (fun j hj => ih j (by omega) (by omega) (by omega)) hK hP hD hS hl
      have f_c14 := i_ne c14
      rcases Decidable.em (z5 = 9) with c15 | c15
      · refine lv_tableIn (off := 464) (tgt := 497) hx hb dL_law_33 (by rw [c15]; decide) (by rw [c15]; decide) (by rw [c15]; decide) (by decide) ?_
        exact law_case_9 hL C0 vpa0 vpa1 vpa2 vpa3 vsa0 vsa1 vsa2 vsa3 vx1_0 vx1_1 vx1_2 vx1_3 vx1_4 vx1_5 vx1_6 vx1_7 vx1_8 vx2_0 vx2_1 vx2_2 vx2_3 vx2_4 vx2_5 vx2_6 vx2_7 vx2_8 hiv h1 (by omega) (fun j hj => ih j (by omega) (by omega) (by omega)) hK hP hD hS hl
      have f_c15 := i_ne c15
      rcases Decidable.em (z5 = 10) with c16 | c16
      · refine lv_tableIn (off := 477) (tgt := 510) hx hb dL_law_33 (by rw [c16]; decide) (by rw [c16]; decide) (by rw [c16]; decide) (by decide) ?_
        exact law_case_10 hL C0 vpa0 vpa1 vpa2 vpa3 vsa0 vsa1 vsa2 vsa3 vx1_0 vx1_1 vx1_2 vx1_3 vx1_4 vx1_5 vx1_6 vx1_7 vx1_8 vx2_0 vx2_1 vx2_2 vx2_3 vx2_4 vx2_5 vx2_6 vx2_7 vx2_8 hiv h1 (by omega) (fun j hj => ih j (by omega) (by omega) (by omega)) hK hP hD hS hl
      have f_c16 := i_ne c16
      rcases Decidable.em (z5 = 11) with c17 | c17
      · refine lv_tableIn (off := 500) (tgt := 533) hx hb dL_law_33 (by rw [c17]; decide) (by rw [c17]; decide) (by rw [c17]; decide) (by decide) ?_
        exact law_case_11 hL C0 vpa0 vpa1 vpa2 vpa3 vsa0 vsa1 vsa2 vsa3 vx1_0 vx1_1 vx1_2 vx1_3 vx1_4 vx1_5 vx1_6 vx1_7 vx1_8 vx2_0 vx2_1 vx2_2 vx2_3 vx2_4 vx2_5 vx2_6 vx2_7 vx2_8 hiv h1 (by omega) (fun j hj => ih j (by omega) (by omega) (by omega)) hK hP hD hS hl
      have f_c17 := i_ne c17
      rcases Decidable.em (z5 = 12) with c18 | c18
      · refine lv_tableIn (off := 523) (tgt := 556) hx hb dL_law_33 (by rw [c18]; decide) (by rw [c18]; decide) (by rw [c18]; decide) (by decide) ?_
        exact law_case_12 hL C0 vpa0 vpa1 vpa2 vpa3 vsa0 vsa1 vsa2 vsa3 vx1_0 vx1_1 vx1_2 vx1_3 vx1_4 vx1_5 vx1_6 vx1_7 vx1_8 vx2_0 vx2_1 vx2_2 vx2_3 vx2_4 vx2_5 vx2_6 vx2_7 vx2_8 hiv h1 (by omega) (fun j hj => ih j (by omega) (by omega) (by omega)) hK hP hD hS hl
      have f_c18 := i_ne c18
      rcases Decidable.em (z5 = 13) with c19 | c19
      · refine lv_tableIn (off := 556) (tgt := 589) hx hb dL_law_33 (by rw [c19]; decide) (by rw [c19]; decide) (by rw [c19]; decide) (by decide) ?_
        exact law_case_13 hL C0 vpa0 vpa1 vpa2 vpa3 vsa0 vsa1 vsa2 vsa3 vx1_0 vx1_1 vx1_2 vx1_3 vx1_4 vx1_5 vx1_6 vx1_7 vx1_8 vx2_0 vx2_1 vx2_2 vx2_3 vx2_4 vx2_5 vx2_6 vx2_7 vx2_8 hiv h1 (by omega) (fun j hj => ih j (by omega) (by omega) (by omega)) hK hP hD hS hl
      have f_c19 := i_ne c19
      rcases Decidable.em (z5 = 14) with c20 | c20
      · refine lv_tableIn (off := 589) (tgt := 622) hx hb dL_law_33 (by rw [c20]; decide) (by rw [c20]; decide) (by rw [c20]; decide) (by decide) ?_
        exact law_case_14 hL C0 vpa0 vpa1 vpa2 vpa3 vsa0 vsa1 vsa2 vsa3 vx1_0 vx1_1 vx1_2 vx1_3 vx1_4 vx1_5 vx1_6 vx1_7 vx1_8 vx2_0 vx2_1 vx2_2 vx2_3 vx2_4 vx2_5 vx2_6 vx2_7 vx2_8 hiv h1 (by omega) (fun j hj => ih j (by omega) (by omega) (by omega)) hK hP hD hS hl
      have f_c20 := i_ne c20
      rcases Decidable.em (z5 = 15) with c21 | c21
      · refine lv_tableIn (off := 612) (tgt := 645) hx hb dL_law_33 (by rw [c21]; decide) (by rw [c21]; decide) (by rw [c21]; decide) (by decide) ?_
        exact law_case_15 hL C0 vpa0 vpa1 vpa2 vpa3 vsa0 vsa1 vsa2 vsa3 vx1_0 vx1_1 vx1_2 vx1_3 vx1_4 vx1_5 vx1_6 vx1_7 vx1_8 vx2_0 vx2_1 vx2_2 vx2_3 vx2_4 vx2_5 vx2_6 vx2_7 vx2_8 hiv h1 (by omega) (fun j hj => ih j (by omega) (by omega) (by omega)) hK hP hD hS hl
      have f_c21 := i_ne c21
      rcases Decidable.em (z5 = 16) with c22 | c22
      · refine lv_tableIn (off := 655) (tgt := 688) hx hb dL_law_33 (by rw [c22]; decide) (by rw [c22]; decide) (by rw [c22]; decide) (by decide) ?_
        exact law_case_16 hL C0 vpa0 vpa1 vpa2 vpa3 vsa0 vsa1 vsa2 vsa3 vx1_0 vx1_1 vx1_2 vx1_3 vx1_4 vx1_5 vx1_6 vx1_7 vx1_8 vx2_0 vx2_1 vx2_2 vx2_3 vx2_4 vx2_5 vx2_6 vx2_7 vx2_8 hiv h1 (by omega) (fun j hj => ih j (by omega) (by omega) (by omega)) hK hP hD hS hl
      have f_c22 := i_ne c22
      rcases Decidable.em (z5 = 17) with c23 | c23
      · refine lv_tableIn (off := 688) (tgt := 721) hx hb dL_law_33 (by rw [c23]; decide) (by rw [c23]; decide) (by rw [c23]; decide) (by decide) ?_
        exact law_case_17 hL C0 vpa0 vpa1 vpa2 vpa3 vsa0 vsa1 vsa2 vsa3 vx1_0 vx1_1 vx1_2 vx1_3 vx1_4 vx1_5 vx1_6 vx1_7 vx1_8 vx2_0 vx2_1 vx2_2 vx2_3 vx2_4 vx2_5 vx2_6 vx2_7 vx2_8 hiv h1 (by omega) (fun j hj => ih j (by omega) (by omega) (by omega)) hK hP hD hS hl
      have f_c23 := i_ne c23
      rcases Decidable.em (z5 = 18) with c24 | c24
      · refine lv_tableIn (off := 701) (tgt := 734) hx hb dL_law_33 (by rw [c24]; decide) (by rw [c24]; decide) (by rw [c24]; decide) (by decide) ?_
        exact law_case_18 hL C0 vpa0 vpa1 vpa2 vpa3 vsa0 vsa1 vsa2 vsa3 vx1_0 vx1_1 vx1_2 vx1_3 vx1_4 vx1_5 vx1_6 vx1_7 vx1_8 vx2_0 vx2_1 vx2_2 vx2_3 vx2_4 vx2_5 vx2_6 vx2_7 vx2_8 hiv h1 (by omega) (fun j hj => ih j (by omega) (by omega) (by omega)) hK hP hD hS hl
      have f_c24 := i_ne c24
      rcases Decidable.em (z5 = 19) with c25 | c25
      · refine lv_tableIn (off := 754) (tgt := 787) hx hb dL_law_33 (by rw [c25]; decide) (by rw [c25]; decide) (by rw [c25]; decide) (by decide) ?_
        exact law_case_19 hL C0 vpa0 vpa1 vpa2 vpa3 vsa0 vsa1 vsa2 vsa3 vx1_0 vx1_1 vx1_2 vx1_3 vx1_4 vx1_5 vx1_6 vx1_7 vx1_8 vx2_0 vx2_1 vx2_2 vx2_3 vx2_4 vx2_5 vx2_6 vx2_7 vx2_8 hiv h1 (by omega) (fun j hj => ih j (by omega) (by omega) (by omega)) hK hP hD hS hl
      have f_c25 := i_ne c25
      rcases Decidable.em (z5 = 20) with c26 | c26
      · refine lv_tableIn (off := 787) (tgt := 820) hx hb dL_law_33 (by rw [c26]; decide) (by rw [c26]; decide) (by rw [c26]; decide) (by decide) ?_
        exact law_case_20 hL C0 vpa0 vpa1 vpa2 vpa3 vsa0 vsa1 vsa2 vsa3 vx1_0 vx1_1 vx1_2 vx1_3 vx1_4 vx1_5 vx1_6 vx1_7 vx1_8 vx2_0 vx2_1 vx2_2 vx2_3 vx2_4 vx2_5 vx2_6 vx2_7 vx2_8 hiv h1 (by omega) (fun j hj => ih j (by omega) (by omega) (by omega)) hK hP hD hS hl
      have f_c26 := i_ne c26
      rcases Decidable.em (z5 = 21) with c27 | c27
      · refine lv_tableIn (off := 800) (tgt := 833) hx hb dL_law_33 (by rw [c27]; decide) (by rw [c27]; decide) (by rw [c27]; decide) (by decide) ?_
        exact law_case_21 hL C0 vpa0 vpa1 vpa2 vpa3 vsa0 vsa1 vsa2 vsa3 vx1_0 vx1_1 vx1_2 vx1_3 vx1_4 vx1_5 vx1_6 vx1_7 vx1_8 vx2_0 vx2_1 vx2_2 vx2_3 vx2_4 vx2_5 vx2_6 vx2_7 vx2_8 hiv h1 (by omega) (fun j hj => ih j (by omega) (by omega) (by omega)) hK hP hD hS hl
      have f_c27 := i_ne c27
      rcases Decidable.em (z5 = 22) with c28 | c28
      · refine lv_tableIn (off := 813) (tgt := 846) hx hb dL_law_33 (by rw [c28]; decide) (by rw [c28]; decide) (by rw [c28]; decide) (by decide) ?_
        exact law_case_22 hL C0 vpa0 vpa1 vpa2 vpa3 vsa0 vsa1 vsa2 vsa3 vx1_0 vx1_1 vx1_2 vx1_3 vx1_4 vx1_5 vx1_6 vx1_7 vx1_8 vx2_0 vx2_1 vx2_2 vx2_3 vx2_4 vx2_5 vx2_6 vx2_7 vx2_8 hiv h1 (by omega) (fun j hj => ih j (by omega) (by omega) (by omega)) hK hP hD hS hl
      have f_c28 := i_ne c28
      rcases Decidable.em (z5 = 23) with c29 | c29
      · refine lv_tableIn (off := 856) (tgt := 889) hx hb dL_law_33 (by rw [c29]; decide) (by rw [c29]; decide) (by rw [c29]; decide) (by decide) ?_
        exact law_case_23 hL C0 vpa0 vpa1 vpa2 vpa3 vsa0 vsa1 vsa2 vsa3 vx1_0 vx1_1 vx1_2 vx1_3 vx1_4 vx1_5 vx1_6 vx1_7 vx1_8 vx2_0 vx2_1 vx2_2 vx2_3 vx2_4 vx2_5 vx2_6 vx2_7 vx2_8 hiv h1 (by omega) (fun j hj => ih j (by omega) (by omega) (by omega)) hK hP hD hS hl
      have f_c29 := i_ne c29
      rcases Decidable.em (z5 = 24) with c30 | c30
      · refine lv_tableIn (off := 899) (tgt := 932) hx hb dL_law_33 (by rw [c30]; decide) (by rw [c30]; decide) (by rw [c30]; decide) (by decide) ?_
        exact law_case_24 hL C0 vpa0 vpa1 vpa2 vpa3 vsa0 vsa1 vsa2 vsa3 vx1_0 vx1_1 vx1_2 vx1_3 vx1_4 vx1_5 vx1_6 vx1_7 vx1_8 vx2_0 vx2_1 vx2_2 vx2_3 vx2_4 vx2_5 vx2_6 vx2_7 vx2_8 hiv h1 (by omega) (fun j hj => ih j (by omega) (by omega) (by omega)) hK hP hD hS hl
      have f_c30 := i_ne c30
      rcases Decidable.em (z5 = 25) with c31 | c31
      · refine lv_tableIn (off := 962) (tgt := 995) hx hb dL_law_33 (by rw [c31]; decide) (by rw [c31]; decide) (by rw [c31]; decide) (by decide) ?_
        exact law_case_25 hL C0 vpa0 vpa1 vpa2 vpa3 vsa0 vsa1 vsa2 vsa3 vx1_0 vx1_1 vx1_2 vx1_3 vx1_4 vx1_5 vx1_6 vx1_7 vx1_8 vx2_0 vx2_1 vx2_2 vx2_3 vx2_4 vx2_5 vx2_6 vx2_7 vx2_8 hiv h1 (by omega) (fun j hj => ih j (by omega) (by omega) (by omega)) hK hP hD hS hl
      have f_c31 := i_ne c31
      refine lv_tableOut (tgt := 1048) hx hb dL_law_33 (by omega) (by decide) ?_
      exact law_case_26 hL C0 vpa0 vpa1 vpa2 vpa3 vsa0 vsa1 vsa2 vsa3 vx1_0 vx1_1 vx1_2 vx1_3 vx1_4 vx1_5 vx1_6 vx1_7 vx1_8 vx2_0 vx2_1 vx2_2 vx2_3 vx2_4 vx2_5 vx2_6 vx2_7 vx2_8 hiv h1 (by omega) (fun j hj => ih j (by omega) (by omega) (by omega)) hK hP hD hS hl