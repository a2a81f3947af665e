theorem nw_fs {q : vw_C} {ty0 : Nat → FieldType} {fs : List Value} (h : (List.range q.2.2).all (fun j => decide (defaultValue (ty0 j) = vp_V fs j)) = true) : ∀ j, j < q.2.2 → defaultValue (ty0 j) = vp_V fs j := fun j hj => of_decide_eq_true (List.all_eq_true.mp h j (List.mem_range.mpr hj))
set_option maxRecDepth 100000 in
set_option maxHeartbeats 4000000 in
/-- openCall -/
theorem m_X3_openCall (g : pw_P) (l : Launch) {w : pw_W} {A D : Nat → Nat} {cap : Nat} {t : Int → Ob} {n : Int} {ds : List Df} {T : List Dn} {be : Bds} {fu : Nat} {S : List Fr} {k nk : Nat} {K V : Nat → Nat} {mv tm : Int} {sc : Option Nat} {vl : Int} {z y : Int} {N R0 : Ob} {e0 : Bds} (nx : Nat) (hB : EvB g w A D cap t n ds T be fu 0 S k nk K V mv tm sc vl) (hs : ScI K T be sc e0 S) (hz : Vl t n z N) (hy : Vl t n y R0) (hx : S.length < 300 → k < fu → nk = S.length → 1 ≤ nx) : pw_M g l yX3_openCall cX3_openCall 4 none { frames := 2, cells := (2 * nx), slots := (13 * nx), locals := 40 } [.ref (A 18), .int (iZ z), .int (iZ y)] w (fun r w' => r = none ∧ frE w w' ∧ (if 300 ≤ S.length then EvS g w' A D cap t n ds T be fu 2 3 oNil [] S k nk else if fu ≤ k then EvS g w' A D cap t n ds T be fu 1 3 oNil [] S k nk else EvS g w' A D cap t n ds T be fu 0 2 oNil [] ((N, R0, [], e0, false) :: S) (k + 1) (max nk (S.length + 1)))) := by
  refine pw_M.of (by decide) (Nat.le_of_ble_eq_true rfl) rfl ?_
  intro p e s m args below meth c C hr hn
  obtain ⟨bi, F, q1, q2, q3, q4, q6⟩ := hB.lens
  obtain ⟨hS, hF, hD, -, q7, q8, q9, q10, q11⟩ := id hB
  have hn0 := hS.n
  have hz0 := Vl.rng hS hz
  have hy0 := Vl.rng hS hy
  refine pw_aload_n (i := 0) C dX3_openCall_0 rfl rfl (Or.inr ⟨_, rfl⟩) ?_
  refine pw_get (j := 3) C cl_X3 fl_X3_35 (by decide) rfl q1 rfl dX3_openCall_1 ?_
  refine pw_sipush C dX3_openCall_4 (by decide) ?_
  refine pw_icmp_lt (tgt := 16) C (by omega) (by omega) dX3_openCall_7 (by decide) (fun h_1 => ?_) (fun h_1 => ?_)
  · refine pw_aload_n (i := 0) C dX3_openCall_16 rfl rfl (Or.inr ⟨_, rfl⟩) ?_
    refine pw_get (j := 5) C cl_X3 fl_X3_29 (by decide) rfl q1 rfl dX3_openCall_17 ?_
    refine pw_aload_n (i := 0) C dX3_openCall_20 rfl rfl (Or.inr ⟨_, rfl⟩) ?_
    refine pw_get (j := 4) C cl_X3 fl_X3_17 (by decide) rfl q1 rfl dX3_openCall_21 ?_
    refine pw_icmp_lt (tgt := 33) C (by omega) (by omega) dX3_openCall_24 (by decide) (fun h_2 => ?_) (fun h_2 => ?_)
    · refine pw_aload_n (i := 0) C dX3_openCall_33 rfl rfl (Or.inr ⟨_, rfl⟩) ?_
      refine pw_dup C dX3_openCall_34 rfl ?_
      refine pw_get (j := 5) C cl_X3 fl_X3_29 (by decide) rfl q1 rfl dX3_openCall_35 ?_
      refine pw_iconst C dX3_openCall_38 ?_
      refine pw_iadd C dX3_openCall_39 ?_
      refine pw_put (j := 5) C cl_X3 fl_X3_29 (by decide) rfl rfl rfl rfl rfl q1 (Nat.le_of_ble_eq_true rfl) dX3_openCall_40 (fun w_5 k_3 o_4 => ?_)
      have k_6 : w_5 18 = ((A 18), some (OB 3 [.ref (A 2), .ref (A 16), .ref (A 19), .int (iZ ((S.length : Nat) : Int)), .int (iZ ((fu : Nat) : Int)), .int (iZ (((k : Nat) : Int) + 1)), .int (iZ 0), .int (iZ bi), .int (iZ mv), .int (iZ tm), va_rf sc, .int (iZ vl)])) := k_3
      refine pw_aload_n (i := 0) C dX3_openCall_43 rfl rfl (Or.inr ⟨_, rfl⟩) ?_
      refine pw_get (j := 2) C cl_X3 fl_X3_13 (by decide) rfl k_6 rfl dX3_openCall_44 ?_
      refine pw_aload_n (i := 0) C dX3_openCall_47 rfl rfl (Or.inr ⟨_, rfl⟩) ?_
      refine pw_get (j := 3) C cl_X3 fl_X3_35 (by decide) rfl k_6 rfl dX3_openCall_48 ?_
      have c_7 := (o_4 19 (by omega)).trans q2
      refine pw_aald C c_7 rfl ⟨by omega, by omega, by omega⟩ dX3_openCall_51 ?_
      rw [Int.toNat_natCast, q3 _ (by omega)]
      by_cases hm : S.length < nk
      · rw [if_pos hm]
        obtain ⟨vc, nm, od, rr, os, en, f, hp1, hp2, hf6⟩ := q9 S.length hm
        refine pw_stk (st' := [.ref (K S.length)]) rfl ?_
        refine pw_ifnonnullR (tgt := 71) C dX3_openCall_52 (by decide) ?_
        refine pw_aload_n (i := 0) C dX3_openCall_71 rfl rfl (Or.inr ⟨_, rfl⟩) ?_
        refine pw_get (j := 2) C cl_X3 fl_X3_13 (by decide) rfl k_6 rfl dX3_openCall_72 ?_
        refine pw_aload_n (i := 0) C dX3_openCall_75 rfl rfl (Or.inr ⟨_, rfl⟩) ?_
        refine pw_get (j := 3) C cl_X3 fl_X3_35 (by decide) rfl k_6 rfl dX3_openCall_76 ?_
        refine pw_aald C c_7 rfl ⟨by omega, by omega, by omega⟩ dX3_openCall_79 ?_
        rw [Int.toNat_natCast, q3 _ (by omega), if_pos hm]
        refine pw_stk (st' := [.ref (K S.length)]) rfl ?_
        refine pw_astore_n (i := 3) (lv' := [(0, .ref (A 18)), (1, .int (iZ z)), (2, .int (iZ y)), (3, .ref (K S.length))]) C dX3_openCall_80 rfl (by decide) (Or.inr ⟨_, rfl⟩) rfl ?_
        refine pw_aload_n (i := 0) C dX3_openCall_81 rfl rfl (Or.inr ⟨_, rfl⟩) ?_
        refine pw_dup C dX3_openCall_82 rfl ?_
        refine pw_get (j := 3) C cl_X3 fl_X3_35 (by decide) rfl k_6 rfl dX3_openCall_83 ?_
        refine pw_iconst C dX3_openCall_86 ?_
        refine pw_iadd C dX3_openCall_87 ?_
        refine pw_put (j := 3) C cl_X3 fl_X3_35 (by decide) rfl rfl rfl rfl rfl k_6 (Nat.le_of_ble_eq_true rfl) dX3_openCall_88 (fun w_11 k_9 o_10 => ?_)
        have k_12 : w_11 18 = ((A 18), some (OB 3 [.ref (A 2), .ref (A 16), .ref (A 19), .int (iZ (((S.length : Nat) : Int) + 1)), .int (iZ ((fu : Nat) : Int)), .int (iZ (((k : Nat) : Int) + 1)), .int (iZ 0), .int (iZ bi), .int (iZ mv), .int (iZ tm), va_rf sc, .int (iZ vl)])) := k_9
        refine pw_aload_n (i := 3) C dX3_openCall_91 rfl rfl (Or.inr ⟨_, rfl⟩) ?_
        refine pw_iload_n (i := 1) C dX3_openCall_92 rfl rfl ?_
        refine pw_aload_n (i := 0) C dX3_openCall_93 rfl rfl (Or.inr ⟨_, rfl⟩) ?_
        refine pw_get (j := 1) C cl_X3 fl_X3_25 (by decide) rfl k_12 rfl dX3_openCall_94 ?_
        refine pw_iload_n (i := 1) C dX3_openCall_97 rfl rfl ?_
        refine pw_callV (As := [.int (iZ z)]) (st := [.int (iZ z), .ref (K S.length)]) C (m_X4_find g l (hF.same (w' := w_11) (fun k h1 => (o_10 k (by omega)).trans (o_4 k (by omega)))) (x := z) (by omega)) my_X4_find ml_X3_134 ((hF.same (w' := w_11) (fun k h1 => (o_10 k (by omega)).trans (o_4 k (by omega)))).rec C) rfl ⟨Nat.le_of_ble_eq_true rfl, Nat.le_of_ble_eq_true rfl⟩ ⟨by (try dsimp only); omega, by (try dsimp only); omega⟩ rfl (Nat.le_of_ble_eq_true rfl) dX3_openCall_98 ?_
        rintro _ _ ⟨rfl, rfl⟩
        refine pw_stk (st' := [va_rf ((fIx ds z 0).map D), .int (iZ z), .ref (K S.length)]) rfl ?_
        refine pw_iload_n (i := 2) C dX3_openCall_101 rfl rfl ?_
        refine pw_aload_n (i := 0) C dX3_openCall_102 rfl rfl (Or.inr ⟨_, rfl⟩) ?_
        refine pw_get (j := 10) C cl_X3 fl_X3_45 (by decide) rfl k_12 rfl dX3_openCall_103 ?_
        have c_13 := ((o_10 (200 + S.length) (by omega)).trans (o_4 (200 + S.length) (by omega))).trans hp1
        refine pw_callV (As := [.int (iZ z), va_rf ((fIx ds z 0).map D), .int (iZ y), va_rf sc]) (st := []) C (m_X0_start g l (x := z) (tm := y) (od := (fIx ds z 0).map D) (os := sc) c_13) my_X0_start ml_X3_140 (pw_rec.of C c_13 cl_X0.1) rfl ⟨Nat.le_of_ble_eq_true rfl, Nat.le_of_ble_eq_true rfl⟩ ⟨by (try dsimp only); omega, by (try dsimp only); omega⟩ rfl (Nat.le_of_ble_eq_true rfl) dX3_openCall_106 ?_
        rintro _ w_14 ⟨rfl, k_15, o_16⟩
        refine pw_stk (st' := []) rfl ?_
        refine pw_aload_n (i := 0) C dX3_openCall_109 rfl rfl (Or.inr ⟨_, rfl⟩) ?_
        refine pw_iconst C dX3_openCall_110 ?_
        have c_17 := (o_16 18 (by omega)).trans k_12
        refine pw_put (j := 8) C cl_X3 fl_X3_63 (by decide) rfl rfl rfl rfl rfl c_17 (Nat.le_of_ble_eq_true rfl) dX3_openCall_111 (fun w_20 k_18 o_19 => ?_)
        have k_21 : w_20 18 = ((A 18), some (OB 3 [.ref (A 2), .ref (A 16), .ref (A 19), .int (iZ (((S.length : Nat) : Int) + 1)), .int (iZ ((fu : Nat) : Int)), .int (iZ (((k : Nat) : Int) + 1)), .int (iZ 0), .int (iZ bi), .int (iZ 2), .int (iZ tm), va_rf sc, .int (iZ vl)])) := k_18
        have c_22 := ((o_19 19 (by omega)).trans ((o_16 19 (by omega)).trans (o_10 19 (by omega)))).trans c_7
        have c_23 := (o_19 (200 + S.length) (by omega)).trans k_15
        have c_24 := ((o_19 (600 + S.length) (by omega)).trans ((o_16 (600 + S.length) (by omega)).trans ((o_10 (600 + S.length) (by omega)).trans (o_4 (600 + S.length) (by omega))))).trans hp2
        refine pw_wide (2 * nx) (13 * nx) (by (try dsimp only); omega) (by (try dsimp only); omega) ?_
        refine pw_vret C hr dX3_openCall_114 ⟨rfl, fun k hk => (o_19 k (by omega)).trans ((o_16 k (by omega)).trans ((o_10 k (by omega)).trans (o_4 k (by omega)))), ?_⟩
        rw [if_neg (by omega), if_neg (by omega)]
        refine ⟨K, V, 2, tm, sc, vl, ?_, (fun h => by cases h), (fun h => by cases h), fun _ => rfl⟩
        refine hB.push (bi := bi) (F := F) (f := f) q4 hs hz hy (by omega) (by omega) k_21 c_22 (fun i hi => by rw [q3 i hi, show max nk (S.length + 1) = nk by omega]) (fun i _ _ => ⟨rfl, rfl⟩) c_23 c_24 hf6 (fun j j1 j2 j3 j4 => (o_19 j (by first | assumption | omega)).trans ((o_16 j (by first | assumption | omega)).trans ((o_10 j (by first | assumption | omega)).trans (o_4 j (by first | assumption | omega)))))
      · rw [if_neg hm]
        refine pw_stk (st' := [.null]) rfl ?_
        refine pw_ifnonnullZ C dX3_openCall_52 ?_
        refine pw_aload_n (i := 0) C dX3_openCall_55 rfl rfl (Or.inr ⟨_, rfl⟩) ?_
        refine pw_get (j := 2) C cl_X3 fl_X3_13 (by decide) rfl k_6 rfl dX3_openCall_56 ?_
        refine pw_aload_n (i := 0) C dX3_openCall_59 rfl rfl (Or.inr ⟨_, rfl⟩) ?_
        refine pw_get (j := 3) C cl_X3 fl_X3_35 (by decide) rfl k_6 rfl dX3_openCall_60 ?_
        refine pw_new (200 + S.length) (fs := [.null, .int (iZ 0), .int (iZ 0), .null, .int (iZ 0), .null, .int (iZ 0)]) C cl_X0 kl_X3_11 in_X0 ii_X0 (nw_fs rfl) (by (try dsimp only); omega) (by (try dsimp only); omega) dX3_openCall_63 (fun a_26 w_27 k_28 o_29 => ?_)
        refine pw_dup C dX3_openCall_66 rfl ?_
        refine pw_callIN (As := []) (st := [.ref a_26, .int (iZ ((S.length : Nat) : Int)), .ref (A 19)]) C (m_X0_init g l (k2 := 600 + S.length) k_28 (by omega)) my_X0_init mn_X3_133 rfl ⟨Nat.le_of_ble_eq_true rfl, Nat.le_of_ble_eq_true rfl⟩ ⟨by (try dsimp only); omega, by (try dsimp only); omega⟩ rfl (Nat.le_of_ble_eq_true rfl) dX3_openCall_67 ?_
        rintro _ w_30 ⟨rfl, b_31, k_32, k_33, o_34⟩
        have o_34x : ∀ j, (j ≠ 200 + S.length ∧ j ≠ 600 + S.length) → w_30 j = w_27 j := fun j hj => o_34 j hj.1 hj.2
        refine pw_stk (st' := [.ref a_26, .int (iZ ((S.length : Nat) : Int)), .ref (A 19)]) rfl ?_
        have c_35 := ((o_34x 19 (by omega)).trans (o_29 19 (by omega))).trans c_7
        refine pw_aast C c_35 rfl k_32 cl_X0.1 ⟨by omega, by omega, by omega⟩ dX3_openCall_70 (fun w_36 k_37 o_38 => ?_)
        refine pw_aload_n (i := 0) C dX3_openCall_71 rfl rfl (Or.inr ⟨_, rfl⟩) ?_
        have c_39 := ((o_38 18 (by omega)).trans ((o_34x 18 (by omega)).trans (o_29 18 (by omega)))).trans k_6
        refine pw_get (j := 2) C cl_X3 fl_X3_13 (by decide) rfl c_39 rfl dX3_openCall_72 ?_
        refine pw_aload_n (i := 0) C dX3_openCall_75 rfl rfl (Or.inr ⟨_, rfl⟩) ?_
        refine pw_get (j := 3) C cl_X3 fl_X3_35 (by decide) rfl c_39 rfl dX3_openCall_76 ?_
        refine pw_aald C k_37 rfl ⟨by omega, by omega, by omega⟩ dX3_openCall_79 ?_
        rw [va_up_self]
        refine pw_stk (st' := [.ref a_26]) rfl ?_
        refine pw_astore_n (i := 3) (lv' := [(0, .ref (A 18)), (1, .int (iZ z)), (2, .int (iZ y)), (3, .ref a_26)]) C dX3_openCall_80 rfl (by decide) (Or.inr ⟨_, rfl⟩) rfl ?_
        refine pw_aload_n (i := 0) C dX3_openCall_81 rfl rfl (Or.inr ⟨_, rfl⟩) ?_
        refine pw_dup C dX3_openCall_82 rfl ?_
        refine pw_get (j := 3) C cl_X3 fl_X3_35 (by decide) rfl c_39 rfl dX3_openCall_83 ?_
        refine pw_iconst C dX3_openCall_86 ?_
        refine pw_iadd C dX3_openCall_87 ?_
        refine pw_put (j := 3) C cl_X3 fl_X3_35 (by decide) rfl rfl rfl rfl rfl c_39 (Nat.le_of_ble_eq_true rfl) dX3_openCall_88 (fun w_42 k_40 o_41 => ?_)
        have k_43 : w_42 18 = ((A 18), some (OB 3 [.ref (A 2), .ref (A 16), .ref (A 19), .int (iZ (((S.length : Nat) : Int) + 1)), .int (iZ ((fu : Nat) : Int)), .int (iZ (((k : Nat) : Int) + 1)), .int (iZ 0), .int (iZ bi), .int (iZ mv), .int (iZ tm), va_rf sc, .int (iZ vl)])) := k_40
        refine pw_aload_n (i := 3) C dX3_openCall_91 rfl rfl (Or.inr ⟨_, rfl⟩) ?_
        refine pw_iload_n (i := 1) C dX3_openCall_92 rfl rfl ?_
        refine pw_aload_n (i := 0) C dX3_openCall_93 rfl rfl (Or.inr ⟨_, rfl⟩) ?_
        refine pw_get (j := 1) C cl_X3 fl_X3_25 (by decide) rfl k_43 rfl dX3_openCall_94 ?_
        refine pw_iload_n (i := 1) C dX3_openCall_97 rfl rfl ?_
        refine pw_callV (As := [.int (iZ z)]) (st := [.int (iZ z), .ref a_26]) C (m_X4_find g l (hF.same (w' := w_42) (fun k h1 => (o_41 k (by omega)).trans ((o_38 k (by omega)).trans ((o_34x k (by omega)).trans ((o_29 k (by omega)).trans (o_4 k (by omega))))))) (x := z) (by omega)) my_X4_find ml_X3_134 ((hF.same (w' := w_42) (fun k h1 => (o_41 k (by omega)).trans ((o_38 k (by omega)).trans ((o_34x k (by omega)).trans ((o_29 k (by omega)).trans (o_4 k (by omega))))))).rec C) rfl ⟨Nat.le_of_ble_eq_true rfl, Nat.le_of_ble_eq_true rfl⟩ ⟨by (try dsimp only); omega, by (try dsimp only); omega⟩ rfl (Nat.le_of_ble_eq_true rfl) dX3_openCall_98 ?_
        rintro _ _ ⟨rfl, rfl⟩
        refine pw_stk (st' := [va_rf ((fIx ds z 0).map D), .int (iZ z), .ref a_26]) rfl ?_
        refine pw_iload_n (i := 2) C dX3_openCall_101 rfl rfl ?_
        refine pw_aload_n (i := 0) C dX3_openCall_102 rfl rfl (Or.inr ⟨_, rfl⟩) ?_
        refine pw_get (j := 10) C cl_X3 fl_X3_45 (by decide) rfl k_43 rfl dX3_openCall_103 ?_
        have c_44 := ((o_41 (200 + S.length) (by omega)).trans (o_38 (200 + S.length) (by omega))).trans k_32
        refine pw_callV (As := [.int (iZ z), va_rf ((fIx ds z 0).map D), .int (iZ y), va_rf sc]) (st := []) C (m_X0_start g l (x := z) (tm := y) (od := (fIx ds z 0).map D) (os := sc) c_44) my_X0_start ml_X3_140 (pw_rec.of C c_44 cl_X0.1) rfl ⟨Nat.le_of_ble_eq_true rfl, Nat.le_of_ble_eq_true rfl⟩ ⟨by (try dsimp only); omega, by (try dsimp only); omega⟩ rfl (Nat.le_of_ble_eq_true rfl) dX3_openCall_106 ?_
        rintro _ w_45 ⟨rfl, k_46, o_47⟩
        refine pw_stk (st' := []) rfl ?_
        refine pw_aload_n (i := 0) C dX3_openCall_109 rfl rfl (Or.inr ⟨_, rfl⟩) ?_
        refine pw_iconst C dX3_openCall_110 ?_
        have c_48 := (o_47 18 (by omega)).trans k_43
        refine pw_put (j := 8) C cl_X3 fl_X3_63 (by decide) rfl rfl rfl rfl rfl c_48 (Nat.le_of_ble_eq_true rfl) dX3_openCall_111 (fun w_51 k_49 o_50 => ?_)
        have k_52 : w_51 18 = ((A 18), some (OB 3 [.ref (A 2), .ref (A 16), .ref (A 19), .int (iZ (((S.length : Nat) : Int) + 1)), .int (iZ ((fu : Nat) : Int)), .int (iZ (((k : Nat) : Int) + 1)), .int (iZ 0), .int (iZ bi), .int (iZ 2), .int (iZ tm), va_rf sc, .int (iZ vl)])) := k_49
        have c_53 := ((o_50 19 (by omega)).trans ((o_47 19 (by omega)).trans (o_41 19 (by omega)))).trans k_37
        have c_54 := (o_50 (200 + S.length) (by omega)).trans k_46
        have c_55 := ((o_50 (600 + S.length) (by omega)).trans ((o_47 (600 + S.length) (by omega)).trans ((o_41 (600 + S.length) (by omega)).trans (o_38 (600 + S.length) (by omega))))).trans k_33
        refine pw_wide (2 * nx) (13 * nx) (by (try dsimp only); omega) (by (try dsimp only); omega) ?_
        refine pw_vret C hr dX3_openCall_114 ⟨rfl, fun k hk => (o_50 k (by omega)).trans ((o_47 k (by omega)).trans ((o_41 k (by omega)).trans ((o_38 k (by omega)).trans ((o_34x k (by omega)).trans ((o_29 k (by omega)).trans (o_4 k (by omega))))))), ?_⟩
        rw [if_neg (by omega), if_neg (by omega)]
        refine ⟨(va_up K S.length a_26), (va_up V S.length b_31), 2, tm, sc, vl, ?_, (fun h => by cases h), (fun h => by cases h), fun _ => rfl⟩
        refine hB.push (bi := bi) (F := _) (f := _) q4 hs hz hy (by omega) (by omega) k_52 c_53 (fun i hi => ?_) (fun i _ hi => ⟨va_up_ne _ _ hi, va_up_ne _ _ hi⟩) (by rw [va_up_self, va_up_self]; exact c_54) (by rw [va_up_self]; exact c_55) (fun _ => ⟨by decide, by decide⟩) (fun j j1 j2 j3 j4 => (o_50 j (by first | assumption | omega)).trans ((o_47 j (by first | assumption | omega)).trans ((o_41 j (by first | assumption | omega)).trans ((o_38 j (by first | assumption | omega)).trans ((o_34x j (by first | assumption | omega)).trans ((o_29 j (by first | assumption | omega)).trans (o_4 j (by first | assumption | omega))))))))
        rw [Int.toNat_natCast]
        by_cases e : i = S.length
        · rw [e, va_up_self, va_up_self, if_pos (by omega)]
        · rw [va_up_ne _ _ e, va_up_ne _ _ e, q3 i hi]
          by_cases e2 : i < nk
          · rw [if_pos e2, if_pos (by omega)]
          · rw [if_neg e2, if_neg (by omega)]
    · refine pw_aload_n (i := 0) C dX3_openCall_27 rfl rfl (Or.inr ⟨_, rfl⟩) ?_
      refine pw_iconst C dX3_openCall_28 ?_
      refine pw_put (j := 6) C cl_X3 fl_X3_32 (by decide) rfl rfl rfl rfl rfl q1 (Nat.le_of_ble_eq_true rfl) dX3_openCall_29 (fun w_58 k_56 o_57 => ?_)
      have k_59 : w_58 18 = ((A 18), some (OB 3 [.ref (A 2), .ref (A 16), .ref (A 19), .int (iZ ((S.length : Nat) : Int)), .int (iZ ((fu : Nat) : Int)), .int (iZ ((k : Nat) : Int)), .int (iZ 1), .int (iZ bi), .int (iZ mv), .int (iZ tm), va_rf sc, .int (iZ vl)])) := k_56
      refine pw_wide (2 * nx) (13 * nx) (by (try dsimp only); omega) (by (try dsimp only); omega) ?_
      refine pw_vret C hr dX3_openCall_32 ⟨rfl, fun k hk => (o_57 k (by omega)), ?_⟩
      rw [if_neg (by omega), if_pos (by omega)]
      exact ⟨K, V, mv, tm, sc, vl, q6 _ _ _ _ _ _ _ k_59 (fun j hj => (o_57 j hj)) q11.2, (fun h => by cases h), (fun h => by cases h), (fun h => by cases h)⟩
  · refine pw_aload_n (i := 0) C dX3_openCall_10 rfl rfl (Or.inr ⟨_, rfl⟩) ?_
    refine pw_iconst C dX3_openCall_11 ?_
    refine pw_put (j := 6) C cl_X3 fl_X3_32 (by decide) rfl rfl rfl rfl rfl q1 (Nat.le_of_ble_eq_true rfl) dX3_openCall_12 (fun w_62 k_60 o_61 => ?_)
    have k_63 : w_62 18 = ((A 18), some (OB 3 [.ref (A 2), .ref (A 16), .ref (A 19), .int (iZ ((S.length : Nat) : Int)), .int (iZ ((fu : Nat) : Int)), .int (iZ ((k : Nat) : Int)), .int (iZ 2), .int (iZ bi), .int (iZ mv), .int (iZ tm), va_rf sc, .int (iZ vl)])) := k_60
    refine pw_wide (2 * nx) (13 * nx) (by (try dsimp only); omega) (by (try dsimp only); omega) ?_
    refine pw_vret C hr dX3_openCall_15 ⟨rfl, fun k hk => (o_61 k (by omega)), ?_⟩
    rw [if_pos (by omega)]
    exact ⟨K, V, mv, tm, sc, vl, q6 _ _ _ _ _ _ _ k_63 (fun j hj => (o_61 j hj)) q11.2, (fun h => by cases h), (fun h => by cases h), (fun h => by cases h)⟩

theorem FrsI.at {g : pw_P} {w : pw_W} {K V D : Nat → Nat} {t : Int → Ob} {n : Int} {ds : List Df} {T : List Dn} {be : Bds} {f : Fr} : ∀ {S : List Fr} {j : Nat}, FrsI g w K V D t n ds T be S → frAt S j = some f → ∃ (zn zr : Int) (os : Option Nat) (f' : Int → Int), w (200 + j) = (K j, some (clE (V j) (f.2.2.1.length : Int) zn ((fIx ds zn 0).map D) zr os f.2.2.2.2)) ∧ w (600 + j) = (V j, some (AI g 6 f')) ∧ (∀ j, inI (f' j)) ∧ Vl t n zn f.1 ∧ f.2.2.1.length ≤ 6 ∧ VlsI t n f' 0 f.2.2.1 ∧ True
  | [], _, _, h => by cases h
  | (nm, r, vs, e, en) :: S, j, h, hj => by
    simp only [frAt] at hj
    split at hj
    · rename_i e
      cases hj
      obtain ⟨⟨zn, zr, os, f, h1, h2, h3, h4, h5, h6, h7, h8⟩, h9⟩ := h
      rw [e]
      exact ⟨zn, zr, os, f, h1, h2, h3, h4, h6, h7, trivial⟩
    · exact FrsI.at h.2 hj
set_option maxRecDepth 100000 in
set_option maxHeartbeats 4000000 in
/-- beginTerm -/
theorem m_X3_beginTerm (g : pw_P) (l : Launch) {w : pw_W} {A D : Nat → Nat} {cap : Nat} {t : Int → Ob} {n : Int} {ds : List Df} {T : List Dn} {be : Bds} {fu : Nat} {S : List Fr} {k nk : Nat} {K V : Nat → Nat} {tm : Int} {sc : Option Nat} {vl : Int} {x : Ob} {e0 : Bds} (nx : Nat) (hB : EvB g w A D cap t n ds T be fu 0 S k nk K V 0 tm sc vl) (hx : Vl t n tm x) (hs : ScI K T be sc e0 S) (hnx : obV x = false → obP x = true → ¬ obCar x = oQuote → S.length < 300 → k < fu → nk = S.length → 1 ≤ nx) (hwf : obV x = true → eHas e0 x = true) : pw_M g l yX3_beginTerm cX3_beginTerm 1 none { frames := 3, cells := (2 * nx), slots := (13 * nx), locals := 66 } [.ref (A 18)] w (fun r w' => r = none ∧ frE w w' ∧ (if obV x then EvS g w' A D cap t n ds T be fu 0 1 (eLk e0 x) [] S k nk else if obP x = false then EvS g w' A D cap t n ds T be fu 0 1 x [] S k nk else if obCar x = oQuote then EvS g w' A D cap t n ds T be fu 0 1 (obCar (obCdr x)) [] S k nk else if 300 ≤ S.length then EvS g w' A D cap t n ds T be fu 2 3 oNil [] S k nk else if fu ≤ k then EvS g w' A D cap t n ds T be fu 1 3 oNil [] S k nk else EvS g w' A D cap t n ds T be fu 0 2 oNil [] ((obCar x, obCdr x, [], e0, false) :: S) (k + 1) (max nk (S.length + 1)))) := by
  refine pw_M.of (by decide) (Nat.le_of_ble_eq_true rfl) rfl ?_
  intro p e s m args below meth c C hr hn
  obtain ⟨bi, F, q1, q2, q3, q4, q6⟩ := hB.lens
  obtain ⟨hS, hF, hD, -, q7, q8, q9, q10, q11⟩ := id hB
  have hn0 := hS.n
  have hx0 := Vl.rng hS hx
  refine pw_aload_n (i := 0) C dX3_beginTerm_0 rfl rfl (Or.inr ⟨_, rfl⟩) ?_
  refine pw_get (j := 0) C cl_X3 fl_X3_21 (by decide) rfl q1 rfl dX3_beginTerm_1 ?_
  refine pw_aload_n (i := 0) C dX3_beginTerm_4 rfl rfl (Or.inr ⟨_, rfl⟩) ?_
  refine pw_get (j := 9) C cl_X3 fl_X3_107 (by decide) rfl q1 rfl dX3_beginTerm_5 ?_
  refine pw_callV (As := [.int (iZ tm)]) (st := []) C (vr_isVariable hS hx) my_X6_isVariable ml_X3_110 (hS.rec C) rfl ⟨Nat.le_of_ble_eq_true rfl, Nat.le_of_ble_eq_true rfl⟩ ⟨by (try dsimp only); omega, by (try dsimp only); omega⟩ rfl (Nat.le_of_ble_eq_true rfl) dX3_beginTerm_8 ?_
  rintro _ _ ⟨rfl, rfl⟩
  refine pw_stk (st' := [.int (iZ (b2i (obV x)))]) rfl ?_
  refine pw_if_eqB (tgt := 51) C dX3_beginTerm_11 (by decide) (fun h_1 => ?_) (fun h_1 => ?_)
  · have hnv := h_1
    refine pw_aload_n (i := 0) C dX3_beginTerm_51 rfl rfl (Or.inr ⟨_, rfl⟩) ?_
    refine pw_get (j := 0) C cl_X3 fl_X3_21 (by decide) rfl q1 rfl dX3_beginTerm_52 ?_
    refine pw_aload_n (i := 0) C dX3_beginTerm_55 rfl rfl (Or.inr ⟨_, rfl⟩) ?_
    refine pw_get (j := 9) C cl_X3 fl_X3_107 (by decide) rfl q1 rfl dX3_beginTerm_56 ?_
    refine pw_callV (As := [.int (iZ tm)]) (st := []) C (vr_isPair hS hx) my_X6_isPair ml_X3_79 (hS.rec C) rfl ⟨Nat.le_of_ble_eq_true rfl, Nat.le_of_ble_eq_true rfl⟩ ⟨by (try dsimp only); omega, by (try dsimp only); omega⟩ rfl (Nat.le_of_ble_eq_true rfl) dX3_beginTerm_59 ?_
    rintro _ _ ⟨rfl, rfl⟩
    refine pw_stk (st' := [.int (iZ (b2i (obP x)))]) rfl ?_
    refine pw_if_neB (tgt := 76) C dX3_beginTerm_62 (by decide) (fun h_2 => ?_) (fun h_2 => ?_)
    · have hnp := h_2
      refine pw_aload_n (i := 0) C dX3_beginTerm_76 rfl rfl (Or.inr ⟨_, rfl⟩) ?_
      refine pw_get (j := 0) C cl_X3 fl_X3_21 (by decide) rfl q1 rfl dX3_beginTerm_77 ?_
      refine pw_aload_n (i := 0) C dX3_beginTerm_80 rfl rfl (Or.inr ⟨_, rfl⟩) ?_
      refine pw_get (j := 9) C cl_X3 fl_X3_107 (by decide) rfl q1 rfl dX3_beginTerm_81 ?_
      refine pw_callV (As := [.int (iZ tm)]) (st := []) C (vr_head hS hx) my_X6_head ml_X3_85 (hS.rec C) rfl ⟨Nat.le_of_ble_eq_true rfl, Nat.le_of_ble_eq_true rfl⟩ ⟨by (try dsimp only); omega, by (try dsimp only); omega⟩ rfl (Nat.le_of_ble_eq_true rfl) dX3_beginTerm_84 ?_
      rintro _ _ ⟨rfl, z_3, rfl, z_3v⟩
      have z_3r := Vl.rng hS z_3v
      refine pw_stk (st' := [.int (iZ z_3)]) rfl ?_
      refine pw_iconst C dX3_beginTerm_87 ?_
      refine pw_icmp_ne (tgt := 109) C (by omega) (by omega) dX3_beginTerm_88 (by decide) (fun h_4 => ?_) (fun h_4 => ?_)
      · have hnq : ¬ obCar x = oQuote := fun q => absurd ((Vl.isk hS z_3v 2 (by decide)).mpr q) (by omega)
        refine pw_aload_n (i := 0) C dX3_beginTerm_109 rfl rfl (Or.inr ⟨_, rfl⟩) ?_
        refine pw_aload_n (i := 0) C dX3_beginTerm_110 rfl rfl (Or.inr ⟨_, rfl⟩) ?_
        refine pw_get (j := 0) C cl_X3 fl_X3_21 (by decide) rfl q1 rfl dX3_beginTerm_111 ?_
        refine pw_aload_n (i := 0) C dX3_beginTerm_114 rfl rfl (Or.inr ⟨_, rfl⟩) ?_
        refine pw_get (j := 9) C cl_X3 fl_X3_107 (by decide) rfl q1 rfl dX3_beginTerm_115 ?_
        refine pw_callV (As := [.int (iZ tm)]) (st := [.ref (A 18)]) C (vr_head hS hx) my_X6_head ml_X3_85 (hS.rec C) rfl ⟨Nat.le_of_ble_eq_true rfl, Nat.le_of_ble_eq_true rfl⟩ ⟨by (try dsimp only); omega, by (try dsimp only); omega⟩ rfl (Nat.le_of_ble_eq_true rfl) dX3_beginTerm_118 ?_
        rintro _ _ ⟨rfl, z_5, rfl, z_5v⟩
        have z_5r := Vl.rng hS z_5v
        refine pw_stk (st' := [.int (iZ z_5), .ref (A 18)]) rfl ?_
        refine pw_aload_n (i := 0) C dX3_beginTerm_121 rfl rfl (Or.inr ⟨_, rfl⟩) ?_
        refine pw_get (j := 0) C cl_X3 fl_X3_21 (by decide) rfl q1 rfl dX3_beginTerm_122 ?_
        refine pw_aload_n (i := 0) C dX3_beginTerm_125 rfl rfl (Or.inr ⟨_, rfl⟩) ?_
        refine pw_get (j := 9) C cl_X3 fl_X3_107 (by decide) rfl q1 rfl dX3_beginTerm_126 ?_
        refine pw_callV (As := [.int (iZ tm)]) (st := [.int (iZ z_5), .ref (A 18)]) C (vr_tail hS hx) my_X6_tail ml_X3_90 (hS.rec C) rfl ⟨Nat.le_of_ble_eq_true rfl, Nat.le_of_ble_eq_true rfl⟩ ⟨by (try dsimp only); omega, by (try dsimp only); omega⟩ rfl (Nat.le_of_ble_eq_true rfl) dX3_beginTerm_129 ?_
        rintro _ _ ⟨rfl, z_6, rfl, z_6v⟩
        have z_6r := Vl.rng hS z_6v
        refine pw_stk (st' := [.int (iZ z_6), .int (iZ z_5), .ref (A 18)]) rfl ?_
        refine pw_callV (As := [.int (iZ z_5), .int (iZ z_6)]) (st := []) C (m_X3_openCall g l nx hB hs z_5v z_6v (fun a b c => hnx hnv hnp hnq a b c)) my_X3_openCall ml_X3_54 (hB.recE C) rfl ⟨Nat.le_of_ble_eq_true rfl, Nat.le_of_ble_eq_true rfl⟩ ⟨by (try dsimp only); omega, by (try dsimp only); omega⟩ rfl (Nat.le_of_ble_eq_true rfl) dX3_beginTerm_132 ?_
        rintro _ w_7 ⟨rfl, hfr, hpost⟩
        refine pw_stk (st' := []) rfl ?_
        refine pw_wide (2 * nx) (13 * nx) (by (try dsimp only); omega) (by (try dsimp only); omega) ?_
        exact pw_vret C hr dX3_beginTerm_135 ⟨rfl, hfr, by rw [if_neg (by rw [hnv]; decide), if_neg (by rw [hnp]; decide), if_neg hnq]; exact hpost⟩
      · have hq0 : obCar x = oQuote := (Vl.isk hS z_3v 2 (by decide)).mp (by omega)
        refine pw_aload_n (i := 0) C dX3_beginTerm_91 rfl rfl (Or.inr ⟨_, rfl⟩) ?_
        refine pw_aload_n (i := 0) C dX3_beginTerm_92 rfl rfl (Or.inr ⟨_, rfl⟩) ?_
        refine pw_get (j := 0) C cl_X3 fl_X3_21 (by decide) rfl q1 rfl dX3_beginTerm_93 ?_
        refine pw_aload_n (i := 0) C dX3_beginTerm_96 rfl rfl (Or.inr ⟨_, rfl⟩) ?_
        refine pw_get (j := 9) C cl_X3 fl_X3_107 (by decide) rfl q1 rfl dX3_beginTerm_97 ?_
        refine pw_callV (As := [.int (iZ tm)]) (st := [.ref (A 18)]) C (vr_second hS hx) my_X6_second ml_X3_123 (hS.rec C) rfl ⟨Nat.le_of_ble_eq_true rfl, Nat.le_of_ble_eq_true rfl⟩ ⟨by (try dsimp only); omega, by (try dsimp only); omega⟩ rfl (Nat.le_of_ble_eq_true rfl) dX3_beginTerm_100 ?_
        rintro _ _ ⟨rfl, z_8, rfl, z_8v⟩
        have z_8r := Vl.rng hS z_8v
        refine pw_stk (st' := [.int (iZ z_8), .ref (A 18)]) rfl ?_
        refine pw_callV (As := [.int (iZ z_8)]) (st := []) C (ev_answer g l q1) my_X3_answer ml_X3_120 (pw_rec.of C q1 cl_X3.1) rfl ⟨Nat.le_of_ble_eq_true rfl, Nat.le_of_ble_eq_true rfl⟩ ⟨by (try dsimp only); omega, by (try dsimp only); omega⟩ rfl (Nat.le_of_ble_eq_true rfl) dX3_beginTerm_103 ?_
        rintro _ w_9 ⟨rfl, k_10, o_11⟩
        refine pw_stk (st' := []) rfl ?_
        refine pw_goto (tgt := 135) C dX3_beginTerm_106 (by decide) ?_
        refine pw_wide (2 * nx) (13 * nx) (by (try dsimp only); omega) (by (try dsimp only); omega) ?_
        refine pw_vret C hr dX3_beginTerm_135 ⟨rfl, fun k hk => (o_11 k (by omega)), ?_⟩
        rw [if_neg (by rw [hnv]; decide), if_neg (by rw [hnp]; decide), if_pos hq0]
        exact ⟨K, V, 1, tm, _, _, q6 _ _ _ _ _ _ _ k_10 (fun j hj => (o_11 j hj)) q11.2, (fun h => by cases h), (fun _ => ⟨rfl, z_8v⟩), (fun h => by cases h)⟩
    · have hnp0 := h_2
      refine pw_aload_n (i := 0) C dX3_beginTerm_65 rfl rfl (Or.inr ⟨_, rfl⟩) ?_
      refine pw_aload_n (i := 0) C dX3_beginTerm_66 rfl rfl (Or.inr ⟨_, rfl⟩) ?_
      refine pw_get (j := 9) C cl_X3 fl_X3_107 (by decide) rfl q1 rfl dX3_beginTerm_67 ?_
      refine pw_callV (As := [.int (iZ tm)]) (st := []) C (ev_answer g l q1) my_X3_answer ml_X3_120 (pw_rec.of C q1 cl_X3.1) rfl ⟨Nat.le_of_ble_eq_true rfl, Nat.le_of_ble_eq_true rfl⟩ ⟨by (try dsimp only); omega, by (try dsimp only); omega⟩ rfl (Nat.le_of_ble_eq_true rfl) dX3_beginTerm_70 ?_
      rintro _ w_12 ⟨rfl, k_13, o_14⟩
      refine pw_stk (st' := []) rfl ?_
      refine pw_goto (tgt := 135) C dX3_beginTerm_73 (by decide) ?_
      refine pw_wide (2 * nx) (13 * nx) (by (try dsimp only); omega) (by (try dsimp only); omega) ?_
      refine pw_vret C hr dX3_beginTerm_135 ⟨rfl, fun k hk => (o_14 k (by omega)), ?_⟩
      rw [if_neg (by rw [hnv]; decide), if_pos hnp0]
      exact ⟨K, V, 1, tm, _, _, q6 _ _ _ _ _ _ _ k_13 (fun j hj => (o_14 j hj)) q11.2, (fun h => by cases h), (fun _ => ⟨rfl, hx⟩), (fun h => by cases h)⟩
  · have hxv := h_1
    refine pw_aload_n (i := 0) C dX3_beginTerm_14 rfl rfl (Or.inr ⟨_, rfl⟩) ?_
    refine pw_aload_n (i := 0) C dX3_beginTerm_15 rfl rfl (Or.inr ⟨_, rfl⟩) ?_
    refine pw_get (j := 10) C cl_X3 fl_X3_45 (by decide) rfl q1 rfl dX3_beginTerm_16 ?_
    rcases id hs with ⟨e1, e2⟩ | ⟨j, ff, dd, j1, j2, j3, j4, j5, j6, j7⟩
    · subst e1
      subst e2
      rcases q4.2 with hbe | ⟨B, q5⟩
      · have := hwf hxv; rw [hbe] at this; cases this
      refine pw_ifnonnull (v := none) (tgt := 33) C dX3_beginTerm_19 (by decide) (fun a h => by cases h) (fun h => ?_)
      refine pw_aload_n (i := 0) C dX3_beginTerm_22 rfl rfl (Or.inr ⟨_, rfl⟩) ?_
      refine pw_aload_n (i := 0) C dX3_beginTerm_23 rfl rfl (Or.inr ⟨_, rfl⟩) ?_
      refine pw_get (j := 9) C cl_X3 fl_X3_107 (by decide) rfl q1 rfl dX3_beginTerm_24 ?_
      refine pw_callV (As := [.int (iZ tm)]) (st := [.ref (A 18)]) C (m_X3_boundValueOf g l q1 hS hx q5.1 q5.2.2) my_X3_boundValueOf ml_X3_113 (pw_rec.of C q1 cl_X3.1) rfl ⟨Nat.le_of_ble_eq_true rfl, Nat.le_of_ble_eq_true rfl⟩ ⟨by (try dsimp only); omega, by (try dsimp only); omega⟩ rfl (Nat.le_of_ble_eq_true rfl) dX3_beginTerm_27 ?_
      rintro _ _ ⟨rfl, z_15, rfl, z_15v⟩
      have z_15r := Vl.rng hS z_15v
      refine pw_stk (st' := [.int (iZ z_15), .ref (A 18)]) rfl ?_
      refine pw_goto (tgt := 45) C dX3_beginTerm_30 (by decide) ?_
      refine pw_callV (As := [.int (iZ z_15)]) (st := []) C (ev_answer g l q1) my_X3_answer ml_X3_120 (pw_rec.of C q1 cl_X3.1) rfl ⟨Nat.le_of_ble_eq_true rfl, Nat.le_of_ble_eq_true rfl⟩ ⟨by (try dsimp only); omega, by (try dsimp only); omega⟩ rfl (Nat.le_of_ble_eq_true rfl) dX3_beginTerm_45 ?_
      rintro _ w_16 ⟨rfl, k_17, o_18⟩
      refine pw_stk (st' := []) rfl ?_
      refine pw_goto (tgt := 135) C dX3_beginTerm_48 (by decide) ?_
      refine pw_wide (2 * nx) (13 * nx) (by (try dsimp only); omega) (by (try dsimp only); omega) ?_
      refine pw_vret C hr dX3_beginTerm_135 ⟨rfl, fun k hk => (o_18 k (by omega)), ?_⟩
      rw [if_pos hxv]
      exact ⟨K, V, 1, tm, _, _, q6 _ _ _ _ _ _ _ k_17 (fun j hj => (o_18 j hj)) q11.2, (fun h => by cases h), (fun _ => ⟨rfl, (by rw [q5.2.1]; exact z_15v)⟩), (fun h => by cases h)⟩
    · subst j2
      subst j6
      obtain ⟨zn, zr, os, f, hc1, hc4, hc5, hc10, hc8, hc9, hc11⟩ := q10.at j3
      rcases DsT.look hS hc10 0 hD with ⟨l1, l2⟩ | ⟨i, d, D1, l1, l2, l3, l4, l5, l6, l7, hc6, l9⟩
      · rw [j5] at l2; cases l2
      rw [j5] at l4
      cases l4
      rw [l1] at hc1
      obtain ⟨hc2, hc3⟩ := hF.get l2
      rw [Nat.zero_add] at hc1
      have hc7 := j7
      refine pw_ifnonnull (v := some (K j)) (tgt := 33) C dX3_beginTerm_19 (by decide) (fun a h => ?_) (fun h => by cases h)
      clear h
      refine pw_aload_n (i := 0) C dX3_beginTerm_33 rfl rfl (Or.inr ⟨_, rfl⟩) ?_
      refine pw_aload_n (i := 0) C dX3_beginTerm_34 rfl rfl (Or.inr ⟨_, rfl⟩) ?_
      refine pw_get (j := 10) C cl_X3 fl_X3_45 (by decide) rfl q1 rfl dX3_beginTerm_35 ?_
      refine pw_aload_n (i := 0) C dX3_beginTerm_38 rfl rfl (Or.inr ⟨_, rfl⟩) ?_
      refine pw_get (j := 9) C cl_X3 fl_X3_107 (by decide) rfl q1 rfl dX3_beginTerm_39 ?_
      refine pw_callV (As := [.ref (K j), .int (iZ tm)]) (st := [.ref (A 18)]) C (m_X3_argumentOf g l q1 hS hc1 hc2 hc3 hc4 hc5 hx hxv hc6 hc7 hc8 hc9) my_X3_argumentOf ml_X3_116 (pw_rec.of C q1 cl_X3.1) rfl ⟨Nat.le_of_ble_eq_true rfl, Nat.le_of_ble_eq_true rfl⟩ ⟨by (try dsimp only); omega, by (try dsimp only); omega⟩ rfl (Nat.le_of_ble_eq_true rfl) dX3_beginTerm_42 ?_
      rintro _ _ ⟨rfl, z_19, rfl, z_19v⟩
      have z_19r := Vl.rng hS z_19v
      refine pw_stk (st' := [.int (iZ z_19), .ref (A 18)]) rfl ?_
      refine pw_callV (As := [.int (iZ z_19)]) (st := []) C (ev_answer g l q1) my_X3_answer ml_X3_120 (pw_rec.of C q1 cl_X3.1) rfl ⟨Nat.le_of_ble_eq_true rfl, Nat.le_of_ble_eq_true rfl⟩ ⟨by (try dsimp only); omega, by (try dsimp only); omega⟩ rfl (Nat.le_of_ble_eq_true rfl) dX3_beginTerm_45 ?_
      rintro _ w_20 ⟨rfl, k_21, o_22⟩
      refine pw_stk (st' := []) rfl ?_
      refine pw_goto (tgt := 135) C dX3_beginTerm_48 (by decide) ?_
      refine pw_wide (2 * nx) (13 * nx) (by (try dsimp only); omega) (by (try dsimp only); omega) ?_
      refine pw_vret C hr dX3_beginTerm_135 ⟨rfl, fun k hk => (o_22 k (by omega)), ?_⟩
      rw [if_pos hxv]
      exact ⟨K, V, 1, tm, _, _, q6 _ _ _ _ _ _ _ k_21 (fun j hj => (o_22 j hj)) q11.2, (fun h => by cases h), (fun _ => ⟨rfl, z_19v⟩), (fun h => by cases h)⟩

