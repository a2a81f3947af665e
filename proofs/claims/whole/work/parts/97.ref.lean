theorem DfM.of {fn fm fv fb : Int → Int} {t : Int → Ob} {n : Int} : ∀ {i : Nat} {T : List Dn}, (∀ (j : Nat) (d : Dn), T[j]? = some d → Vl t n (fn ((i + j : Nat) : Int)) d.1 ∧ fm ((i + j : Nat) : Int) = obLen d.2.1 ∧ VlsI t n fv (6 * ((i + j : Nat) : Int)) (lsO d.2.1) ∧ Vl t n (fb ((i + j : Nat) : Int)) d.2.2) → DfM fn fm fv fb t n i T
  | _, [], _ => trivial
  | i, d :: T, h => by
    obtain ⟨h1, h2, h3, h4⟩ := h 0 d rfl
    refine ⟨h1, h2, h3, h4, DfM.of (fun j e he => ?_)⟩
    have := h (j + 1) e (by simpa using he)
    rw [show i + (j + 1) = i + 1 + j by omega] at this
    exact this
theorem MdD.drop {g : pw_P} {w : pw_W} {B : Nat → Nat} {t : Int → Ob} {n : Int} {T : List Dn} {d : Dn} (h : MdD g w B t n (T ++ [d])) : MdD g w B t n T := by
  obtain ⟨fn, fm, fv, fb, d1, d2, d3, d4, hu, hDf, h40⟩ := h
  refine ⟨fn, fm, fv, fb, d1, d2, d3, d4, hu, DfM.of (fun j e he => ?_), by simp at h40; omega⟩
  exact DfM.get hDf (by rw [List.getElem?_append_left (List.getElem?_eq_some_iff.mp he).1]; exact he)
theorem undoC_app (T : List Dn) (d : Dn) : undoC (T ++ [d]) = if T.any (fun q => (cl2 d.1 q.2.2).1) then (3, T ++ [d]) else (0, T) := by
  unfold undoC
  rw [List.getLast?_concat]
  show (if ((T ++ [d]).dropLast.any fun q => (cl2 d.1 q.2.2).1) = true then (3, T ++ [d]) else (0, (T ++ [d]).dropLast)) = _
  rw [List.dropLast_concat]
theorem drop1 {α : Type} {L : List α} {k : Nat} {Y : α} (h : L[k]? = some Y) : L.drop k = Y :: L.drop (k + 1) := by
  obtain ⟨h1, h2⟩ := List.getElem?_eq_some_iff.mp h
  rw [List.drop_eq_getElem_cons h1, h2]
theorem rCc.of2 {g : pw_P} {w w' : pw_W} {b : Nat} {B : Nat → Nat} {x : Nat → Int} {t : Int → Ob} {n : Int} {sN fu : Nat} {T T0 : List Dn} {R R0 : Cr} {cost : Int} {r : Option Value} (e0 : T = T0) (e : R = R0) (h : rCc g w w' b B x t n sN fu T0 R0 cost r) : rCc g w w' b B x t n sN fu T R cost r := e0 ▸ e ▸ h
theorem plT_get {T : List Dn} {j : Nat} {d : Dn} (h : T[j]? = some d) : (plT T)[j]? = some (plD d) := by unfold plT; rw [List.getElem?_map, h]; rfl
theorem oIx_in {T : List Dn} {X : Ob} (h : T.length ≤ 40) : -1 ≤ oIx (dIx T X 0) 0 ∧ oIx (dIx T X 0) 0 < 40 := by
  cases hd : dIx T X 0 with
  | none => exact ⟨Int.le_refl _, by decide⟩
  | some j =>
    obtain ⟨d, g1, g2, g3, g4, g5⟩ := dIx_get hd
    show -1 ≤ 0 + ((j : Nat) : Int) ∧ 0 + ((j : Nat) : Int) < 40
    omega
theorem oIx_no {T : List Dn} {X : Ob} (h : oIx (dIx (plT T) X 0) 0 = -1) : dLk T X = none := by
  cases hd : dIx (plT T) X 0 with
  | none =>
    have := dIx_none.mp hd
    rw [plT_lk] at this
    cases hl : dLk T X with
    | none => rfl
    | some d => rw [hl] at this; cases this
  | some j => rw [hd] at h; have : (0 : Int) + ((j : Nat) : Int) = -1 := h; omega
theorem oIx_yes {T : List Dn} {X : Ob} (h : oIx (dIx (plT T) X 0) 0 ≠ -1) : ∃ (j : Nat) (d : Dn), oIx (dIx (plT T) X 0) 0 = ((j : Nat) : Int) ∧ dIx (plT T) X 0 = some j ∧ (plT T)[j]? = some (plD d) ∧ d.1 = X ∧ dLk T X = some d ∧ j < (plT T).length := by
  cases hd : dIx (plT T) X 0 with
  | none => rw [hd] at h; exact absurd rfl h
  | some j =>
    obtain ⟨e, g1, g2, g3, g4, g5⟩ := dIx_get hd
    rw [Nat.sub_zero] at g1
    rw [plT_lk] at g5
    cases hl : dLk T X with
    | none => rw [hl] at g5; cases g5
    | some d =>
      rw [hl] at g5
      have e1 : plD d = e := Option.some.inj g5
      refine ⟨j, d, by show (0 : Int) + ((j : Nat) : Int) = _; omega, rfl, by rw [e1]; exact g1, ?_, rfl, by omega⟩
      rw [← g2, ← e1]; rfl
theorem mk_ls : ∀ {x : Ob}, 0 ≤ obLen x → mkL (lsO x) = x := by
  intro x
  induction x with
  | add a c ha hc =>
    intro h
    have := obLen_cdr (x := .add a c) rfl h
    simp only [obCdr] at this
    simp only [lsO, mkL, hc this.2]
  | _ => intro h; have h2 := (obLen_np rfl h).1; rw [h2]; rfl
set_option maxRecDepth 100000 in
set_option maxHeartbeats 4000000 in
/-- undo -/
theorem m_X10_undo (g : pw_P) (l : Launch) {w : pw_W} {b : Nat} {B : Nat → Nat} {x : Nat → Int} {t : Int → Ob} {n : Int} {sN : Nat} {fZ : Int → Int} {T : List Dn} {fu : Nat} (hC : CmW g w b B x t n sN fZ (plT T) [] fu 0 0 0) {o : Int} {X : Ob} (ho : Vl t n o X) (hfu : fu ≤ 1000) (hTo0 : TOk T) (hTn0 : TNs T) (hnd : (nd2 X).1 ≤ 1000) {nk : Nat} (hTz : TSz T) : pw_M g l yX10_undo cX10_undo 3 (some .int) { frames := 4, cells := 0, slots := 0, locals := 90 } [.ref b, .int (iZ o)] w (fun r w' => rCc g w w' b B x t n sN fu (plT (if obLen X = 1 then (undoC T).2 else T)) (if obLen X = 1 then ((undoC T).1, none, 0, 0, nk) else (2, none, 0, 0, nk)) 0 r) := by
  refine pw_M.of (by decide) (Nat.le_of_ble_eq_true rfl) rfl ?_
  intro p e s m args below meth c C hr hn
  obtain ⟨h0, hR, hK, hD, ⟨hBt, hWk, hIt, hEv, hTp, hTl, hMp⟩, hO, h7, h10, h32, h37, h39, h40, h41, h45, h47, h69, h38⟩ := id hC
  have hRn := hR.n
  have hor := Vl.rg hR ho
  have hTo := hTo0.pl
  have hTn := hTn0.pl
  have hDl : ∀ d ∈ plT T, 0 ≤ obLen d.2.1 := fun d hd => (hTo d hd).2.1
  have hT6 : ∀ d ∈ plT T, obLen d.2.1 ≤ 6 := fun d hd => (hTo d hd).2.2.1
  obtain ⟨fn, fm, dv, fb, d1, d2, d3, d4, ⟨u1, u2, u3, u4⟩, hDf, hT40⟩ := id hD
  refine pw_aload_n (i := 0) C dX10_undo_0 rfl rfl (Or.inr ⟨_, rfl⟩) ?_
  refine pw_iload_n (i := 1) C dX10_undo_1 rfl rfl ?_
  refine pw_callV (As := [.int (iZ o)]) (st := []) C (m_X10_lengthOf g l h0 hR h7 h10 hK ho) my_X10_lengthOf ml_X10_325 (pw_rec.of C h0 cl_X10.1) rfl ⟨Nat.le_of_ble_eq_true rfl, Nat.le_of_ble_eq_true rfl⟩ ⟨by (try dsimp only); omega, by (try dsimp only); omega⟩ rfl (Nat.le_of_ble_eq_true rfl) dX10_undo_2 ?_
  rintro _ _ ⟨rfl, rfl⟩
  refine pw_stk (st' := [.int (iZ (obLen X))]) rfl ?_
  have g_301 := obLen_rg hR ho
  refine pw_iconst C dX10_undo_5 ?_
  refine pw_icmp_eq (tgt := 11) C (by omega) (by omega) dX10_undo_6 (by decide) (fun h_302 => ?_) (fun h_302 => ?_)
  · refine pw_aload_n (i := 0) C dX10_undo_11 rfl rfl (Or.inr ⟨_, rfl⟩) ?_
    refine pw_get (j := 32) C cl_X10 fl_X10_295 (by decide) rfl h0 rfl dX10_undo_12 ?_
    refine pw_stk (st' := [.int (iZ (x 32))]) rfl ?_
    refine pw_stk (st' := [.int (iZ (((plT T).length : Nat) : Int))]) (by rw [h32]) ?_
    refine pw_if_ne (tgt := 20) C (by omega) dX10_undo_15 (by decide) (fun h_303 => ?_) (fun h_303 => ?_)
    · refine pw_iconst C dX10_undo_20 ?_
      refine pw_istore_n (i := 2) (lv' := [(0, .ref b), (1, .int (iZ o)), (2, .int (iZ 0))]) C dX10_undo_21 rfl (by decide) rfl ?_
      obtain ⟨T0, d, hTe⟩ : ∃ T0 d, T = T0 ++ [d] := by
        rcases List.eq_nil_or_concat T with e | ⟨T0, d, e⟩
        · have h0l : (plT T).length = 0 := by rw [e]; rfl
          exfalso; omega
        · exact ⟨T0, d, by rw [e]; try simp⟩
      have hTpp : plT T = plT T0 ++ [plD d] := by rw [hTe]; simp [plT]
      have hll : (plT T).length = (plT T0).length + 1 := by rw [hTpp]; simp
      have hl0 := plT_len T0
      have hgl := (DfM.get hDf (plT_get (T := T) (j := T0.length) (d := d) (by rw [hTe]; simp))).1
      rw [show (((0 + T0.length : Nat)) : Int) = (((plT T).length : Nat) : Int) - 1 by omega] at hgl
      have loop : ∀ (jj j : Nat) (w1 : pw_W) (v1 : Int), j + jj = T0.length → w1 1000 = (b, some (mdE B (va_up x 49 v1))) → gWk g w1 B → (∀ k, (k ≠ 1000 ∧ k ≠ 1049) → w1 k = w k) → (T0.drop j).any (fun q : Dn => (cl2 d.1 q.2.2).1) = T0.any (fun q : Dn => (cl2 d.1 q.2.2).1) → pw_G g p l e { frames := 4, cells := 0, slots := 0, locals := 90 } s m args below meth c 3 (pw_Q g below (fun r w' => rCc g w w' b B x t n sN fu (plT (if obLen X = 1 then (undoC T).2 else T)) (if obLen X = 1 then ((undoC T).1, none, 0, 0, nk) else (2, none, 0, 0, nk)) 0 r) args s { frames := 4, cells := 0, slots := 0, locals := 90 }) 0 0 22 [(0, .ref b), (1, .int (iZ o)), (2, .int (iZ ((j : Nat) : Int)))] [] w1 := by
        intro jj
        induction jj with
        | zero =>
          intro j w1 v1 hj y0 hWk1 hf1 hqa
          refine pw_iload_n (i := 2) C dX10_undo_22 rfl rfl ?_
          refine pw_aload_n (i := 0) C dX10_undo_23 rfl rfl (Or.inr ⟨_, rfl⟩) ?_
          refine pw_get (j := 32) C cl_X10 fl_X10_295 (by decide) rfl y0 rfl dX10_undo_24 ?_
          refine pw_stk (st' := [.int (iZ (x 32)), .int (iZ ((j : Nat) : Int))]) rfl ?_
          refine pw_stk (st' := [.int (iZ (((plT T).length : Nat) : Int)), .int (iZ ((j : Nat) : Int))]) (by rw [h32]) ?_
          refine pw_iconst C dX10_undo_27 ?_
          refine pw_isub C dX10_undo_28 ?_
          refine pw_icmp_ge (tgt := 64) C (by omega) (by omega) dX10_undo_29 (by decide) (fun h_11 => ?_) (fun h_11 => ?_)
          · refine pw_aload_n (i := 0) C dX10_undo_64 rfl rfl (Or.inr ⟨_, rfl⟩) ?_
            refine pw_dup C dX10_undo_65 rfl ?_
            refine pw_get (j := 32) C cl_X10 fl_X10_295 (by decide) rfl y0 rfl dX10_undo_66 ?_
            refine pw_stk (st' := [.int (iZ (x 32)), .ref b]) rfl ?_
            refine pw_stk (st' := [.int (iZ (((plT T).length : Nat) : Int)), .ref b]) (by rw [h32]) ?_
            refine pw_iconst C dX10_undo_69 ?_
            refine pw_isub C dX10_undo_70 ?_
            refine pw_put (j := 32) C cl_X10 fl_X10_295 (by decide) rfl rfl rfl rfl rfl y0 (Nat.le_of_ble_eq_true rfl) dX10_undo_71 (fun w_14 k_12 o_13 => ?_)
            have k_15 : w_14 1000 = (b, some (mdE B (va_up (va_up x 49 v1) 32 ((((plT T).length : Nat) : Int) - 1)))) := k_12
            refine pw_iconst C dX10_undo_74 ?_
            have hany : ¬ T0.any (fun q : Dn => (cl2 d.1 q.2.2).1) = true := by rw [← hqa, show T0.drop j = [] from List.drop_eq_nil_iff.mpr (by omega)]; simp
            have hU : undoC T = (0, T0) := by rw [hTe, undoC_app, if_neg hany]
            have D_16 := hD.same (w' := w_14) (fun k hk => (o_13 k (by omega)).trans (hf1 k (by omega))) Ext.rf
            have hDx : MdD g w_14 B t n (plT T0 ++ [plD d]) := by rw [← hTpp]; exact D_16
            have R_17 := hR.same (w' := w_14) (fun k hk => (o_13 k (by omega)).trans (hf1 k (by omega)))
            have G_18 := hBt.same (w' := w_14) (fun k hk => (o_13 k (by omega)).trans (hf1 k (by omega)))
            have G_19 := hWk1.same (w' := w_14) (fun k hk => (o_13 k (by omega)))
            have G_20 := hIt.same (w' := w_14) (fun k hk => (o_13 k (by omega)).trans (hf1 k (by omega)))
            have G_21 := hEv.same (w' := w_14) (fun k hk => (o_13 k (by omega)).trans (hf1 k (by omega)))
            have G_22 := hTp.same (w' := w_14) (fun k hk => (o_13 k (by omega)).trans (hf1 k (by omega)))
            have G_23 := hTl.same (w' := w_14) (fun k hk => (o_13 k (by omega)).trans (hf1 k (by omega)))
            have G_24 := hMp.same (w' := w_14) (fun k hk => (o_13 k (by omega)).trans (hf1 k (by omega)))
            exact pw_iret C hr dX10_undo_75 (rCc.of2 (T0 := plT T0) (by rw [if_pos (by omega), hU]) (R0 := (0, none, 0, 0, nk)) ((if_pos (by omega)).trans (by rw [hU])) ⟨(va_up (va_up x 49 v1) 32 ((((plT T).length : Nat) : Int) - 1)), t, n, sN, fZ, rfl, ⟨k_15, R_17, hK, hDx.drop, ⟨G_18, G_19, G_20, G_21, G_22, G_23, G_24⟩, (hO.same ((o_13 1015 (by omega)).trans (hf1 1015 (by omega)))), h7, h10, (by show (((plT T).length : Nat) : Int) - 1 = (((plT T0).length : Nat) : Int); omega), h37, h39, h40, h41, h45, h47, h69, h38⟩, Ext.rf, by omega, by omega, ⟨rfl, rfl, rfl⟩, fun k hk => (o_13 k (by omega)).trans (hf1 k (by omega))⟩)
          · exfalso; omega
        | succ jj ih =>
          intro j w1 v1 hj y0 hWk1 hf1 hqa
          refine pw_iload_n (i := 2) C dX10_undo_22 rfl rfl ?_
          refine pw_aload_n (i := 0) C dX10_undo_23 rfl rfl (Or.inr ⟨_, rfl⟩) ?_
          refine pw_get (j := 32) C cl_X10 fl_X10_295 (by decide) rfl y0 rfl dX10_undo_24 ?_
          refine pw_stk (st' := [.int (iZ (x 32)), .int (iZ ((j : Nat) : Int))]) rfl ?_
          refine pw_stk (st' := [.int (iZ (((plT T).length : Nat) : Int)), .int (iZ ((j : Nat) : Int))]) (by rw [h32]) ?_
          refine pw_iconst C dX10_undo_27 ?_
          refine pw_isub C dX10_undo_28 ?_
          refine pw_icmp_ge (tgt := 64) C (by omega) (by omega) dX10_undo_29 (by decide) (fun h_51 => ?_) (fun h_51 => ?_)
          · exfalso; omega
          · refine pw_aload_n (i := 0) C dX10_undo_32 rfl rfl (Or.inr ⟨_, rfl⟩) ?_
            refine pw_aload_n (i := 0) C dX10_undo_33 rfl rfl (Or.inr ⟨_, rfl⟩) ?_
            refine pw_get (j := 36) C cl_X10 fl_X10_83 (by decide) rfl y0 rfl dX10_undo_34 ?_
            refine pw_stk (st' := [.ref (B 36), .ref b]) rfl ?_
            refine pw_iload_n (i := 2) C dX10_undo_37 rfl rfl ?_
            have c_52 := (hf1 1037 (by omega)).trans d4
            have g_53 := u4 ((j : Nat) : Int)
            refine pw_iald C c_52 ⟨by omega, by omega, by omega⟩ dX10_undo_38 ?_
            refine pw_aload_n (i := 0) C dX10_undo_39 rfl rfl (Or.inr ⟨_, rfl⟩) ?_
            refine pw_get (j := 33) C cl_X10 fl_X10_74 (by decide) rfl y0 rfl dX10_undo_40 ?_
            refine pw_stk (st' := [.ref (B 33), .int (iZ (fb ((j : Nat) : Int))), .ref b]) rfl ?_
            refine pw_aload_n (i := 0) C dX10_undo_43 rfl rfl (Or.inr ⟨_, rfl⟩) ?_
            refine pw_get (j := 32) C cl_X10 fl_X10_295 (by decide) rfl y0 rfl dX10_undo_44 ?_
            refine pw_stk (st' := [.int (iZ (x 32)), .ref (B 33), .int (iZ (fb ((j : Nat) : Int))), .ref b]) rfl ?_
            refine pw_stk (st' := [.int (iZ (((plT T).length : Nat) : Int)), .ref (B 33), .int (iZ (fb ((j : Nat) : Int))), .ref b]) (by rw [h32]) ?_
            refine pw_iconst C dX10_undo_47 ?_
            refine pw_isub C dX10_undo_48 ?_
            have c_54 := (hf1 1034 (by omega)).trans d1
            have g_55 := u1 ((((plT T).length : Nat) : Int) - 1)
            refine pw_iald C c_54 ⟨by omega, by omega, by omega⟩ dX10_undo_49 ?_
            have R_56 := hR.same (w' := w1) (fun k hk => (hf1 k (by omega)))
            obtain ⟨q, hq⟩ : ∃ q, T0[j]? = some q := ⟨_, List.getElem?_eq_getElem (by omega)⟩
            have hqT : T[j]? = some q := by rw [hTe, List.getElem?_append_left (by omega)]; exact hq
            have hqm := List.mem_of_getElem? hqT
            have hg1 := DfM.get hDf (plT_get hqT)
            rw [Nat.zero_add] at hg1
            have hwq := (hTo0 q hqm).2.2.2
            have hwq1 := (wf2_mono (T := T) (vs' := va1) (fun _ _ => rfl) q.2.2).1 hwq
            obtain ⟨fw, f1, f2⟩ := hWk1
            have hdk := drop1 hq
            refine pw_callV (As := [.int (iZ (fb ((j : Nat) : Int))), .int (iZ (fn ((((plT T).length : Nat) : Int) - 1)))]) (st := []) C (m_X10_hasCall g l y0 R_56 h7 h10 hK hg1.2.2.2 (N := d.1) hgl (fun e => by have := (hTn0 d (by rw [hTe]; simp)).1; rw [e, oQuote_yK, kIx_k 2 (by decide)] at this; omega) f1 f2 (T1 := T) (vs := va1) ((pl2_wf T va1 q.2.2).1 hwq1) (by show (sz2 (pl2 q.2.2).1).1 ≤ 120; rw [(pl2_sz T q.2.2).1 hwq1]; exact hTz q hqm)) my_X10_hasCall ml_X10_454 (pw_rec.of C y0 cl_X10.1) rfl ⟨Nat.le_of_ble_eq_true rfl, Nat.le_of_ble_eq_true rfl⟩ ⟨by (try dsimp only); omega, by (try dsimp only); omega⟩ rfl (Nat.le_of_ble_eq_true rfl) dX10_undo_50 ?_
            rintro _ w2 ⟨rfl, ⟨v2, fw2, e0, e49, g49⟩, ho2⟩
            have G_57 : gWk g w2 B := ⟨fw2, e49, g49⟩
            have hce : (cl2 d.1 (plD q).2.2).1 = (cl2 d.1 q.2.2).1 := (pl2_cl T va1 d.1 q.2.2).1 hwq1
            refine pw_stk (st' := [.int (iZ (b2i ((cl2 d.1 (plD q).2.2).1)))]) rfl ?_
            refine pw_if_eqB (tgt := 58) C dX10_undo_53 (by decide) (fun h_58 => ?_) (fun h_58 => ?_)
            · refine pw_iinc (lv' := [(0, .ref b), (1, .int (iZ o)), (2, .int (iZ (((j : Nat) : Int) + 1)))]) C dX10_undo_58 rfl (by decide) rfl ?_
              refine pw_goto (tgt := 22) C dX10_undo_61 (by decide) ?_
              rw [show ((j : Nat) : Int) + 1 = ((j + 1 : Nat) : Int) by omega]
              exact ih (j + 1) w2 v2 (by omega) (by rw [e0]; rfl) G_57 (fun k hk => (ho2 k (by omega)).trans (hf1 k hk)) (by rw [← hqa, hdk, List.any_cons, ← hce, h_58, Bool.false_or])
            · refine pw_iconst C dX10_undo_56 ?_
              have hany : T0.any (fun q : Dn => (cl2 d.1 q.2.2).1) = true := by rw [← hqa, hdk, List.any_cons, ← hce, h_58]; rfl
              have hU : undoC T = (3, T) := by rw [hTe, undoC_app, if_pos hany]
              have R_59 := R_56.same (w' := w2) (fun k hk => (ho2 k (by omega)))
              have D_60 := hD.same (w' := w2) (fun k hk => (ho2 k (by omega)).trans (hf1 k (by omega))) Ext.rf
              have G_61 := hBt.same (w' := w2) (fun k hk => (ho2 k (by omega)).trans (hf1 k (by omega)))
              have G_62 := hIt.same (w' := w2) (fun k hk => (ho2 k (by omega)).trans (hf1 k (by omega)))
              have G_63 := hEv.same (w' := w2) (fun k hk => (ho2 k (by omega)).trans (hf1 k (by omega)))
              have G_64 := hTp.same (w' := w2) (fun k hk => (ho2 k (by omega)).trans (hf1 k (by omega)))
              have G_65 := hTl.same (w' := w2) (fun k hk => (ho2 k (by omega)).trans (hf1 k (by omega)))
              have G_66 := hMp.same (w' := w2) (fun k hk => (ho2 k (by omega)).trans (hf1 k (by omega)))
              exact pw_iret C hr dX10_undo_57 (rCc.of2 (T0 := plT T) (by rw [if_pos (by omega), hU]) (R0 := (3, none, 0, 0, nk)) ((if_pos (by omega)).trans (by rw [hU])) ⟨(va_up (va_up x 49 v1) 49 v2), t, n, sN, fZ, rfl, ⟨e0, R_59, hK, D_60, ⟨G_61, G_57, G_62, G_63, G_64, G_65, G_66⟩, (hO.same ((ho2 1015 (by omega)).trans (hf1 1015 (by omega)))), h7, h10, h32, h37, h39, h40, h41, h45, h47, h69, h38⟩, Ext.rf, by omega, by omega, ⟨rfl, rfl, rfl⟩, fun k hk => (ho2 k (by omega)).trans (hf1 k (by omega))⟩)
      exact loop T0.length 0 w (x 49) (by omega) h0 hWk (fun _ _ => rfl) rfl
    · refine pw_iconst C dX10_undo_18 ?_
      have hT0 : T = [] := by have := plT_len T; exact List.length_eq_zero_iff.mp (by omega)
      exact pw_iret C hr dX10_undo_19 (rCc.of2 (by rw [if_pos (by omega), hT0]; rfl) (R0 := (3, none, 0, 0, nk)) ((if_pos (by omega)).trans (by rw [hT0]; rfl)) ⟨x, t, n, sN, fZ, rfl, ⟨h0, hR, hK, hD, ⟨hBt, hWk, hIt, hEv, hTp, hTl, hMp⟩, hO, h7, h10, h32, h37, h39, h40, h41, h45, h47, h69, h38⟩, Ext.rf, by omega, by omega, ⟨rfl, rfl, rfl⟩, fun k hk => rfl⟩)
  · refine pw_iconst C dX10_undo_9 ?_
    exact pw_iret C hr dX10_undo_10 (rCc.of2 (by rw [if_neg (by omega)]) (R0 := (2, none, 0, 0, nk)) (if_neg (by omega)) ⟨x, t, n, sN, fZ, rfl, ⟨h0, hR, hK, hD, ⟨hBt, hWk, hIt, hEv, hTp, hTl, hMp⟩, hO, h7, h10, h32, h37, h39, h40, h41, h45, h47, h69, h38⟩, Ext.rf, by omega, by omega, ⟨rfl, rfl, rfl⟩, fun k hk => rfl⟩)

set_option maxRecDepth 100000 in
set_option maxHeartbeats 4000000 in
/-- show -/
theorem m_X10_show (g : pw_P) (l : Launch) {w : pw_W} {b : Nat} {B : Nat → Nat} {x : Nat → Int} {t : Int → Ob} {n : Int} {sN : Nat} {fZ : Int → Int} {T : List Dn} {fu : Nat} (hC : CmW g w b B x t n sN fZ (plT T) [] fu 0 0 0) {o : Int} {X : Ob} (ho : Vl t n o X) (hfu : fu ≤ 1000) (hTo0 : TOk T) (hTn0 : TNs T) (hnd : (nd2 X).1 ≤ 1000) {nk : Nat} (hcap : n + 20 ≤ 40000) : pw_M g l yX10_show cX10_show 5 (some .int) { frames := 6, cells := 0, slots := 0, locals := 137 } [.ref b, .int (iZ o)] w (fun r w' => rCc g w w' b B x t n sN fu (plT T) (if obLen X = 2 then ((showC T (obCar (obCdr X))).1, (showC T (obCar (obCdr X))).2, 0, 0, nk) else (2, none, 0, 0, nk)) 10 r) := by
  refine pw_M.of (by decide) (Nat.le_of_ble_eq_true rfl) rfl ?_
  intro p e s m args below meth c C hr hn
  obtain ⟨h0, hR, hK, hD, ⟨hBt, hWk, hIt, hEv, hTp, hTl, hMp⟩, hO, h7, h10, h32, h37, h39, h40, h41, h45, h47, h69, h38⟩ := id hC
  have hRn := hR.n
  have hor := Vl.rg hR ho
  have hTo := hTo0.pl
  have hTn := hTn0.pl
  have hDl : ∀ d ∈ plT T, 0 ≤ obLen d.2.1 := fun d hd => (hTo d hd).2.1
  have hT6 : ∀ d ∈ plT T, obLen d.2.1 ≤ 6 := fun d hd => (hTo d hd).2.2.1
  obtain ⟨fn, fm, dv, fb, d1, d2, d3, d4, ⟨u1, u2, u3, u4⟩, hDf, hT40⟩ := id hD
  refine pw_aload_n (i := 0) C dX10_show_0 rfl rfl (Or.inr ⟨_, rfl⟩) ?_
  refine pw_iload_n (i := 1) C dX10_show_1 rfl rfl ?_
  refine pw_callV (As := [.int (iZ o)]) (st := []) C (m_X10_lengthOf g l h0 hR h7 h10 hK ho) my_X10_lengthOf ml_X10_325 (pw_rec.of C h0 cl_X10.1) rfl ⟨Nat.le_of_ble_eq_true rfl, Nat.le_of_ble_eq_true rfl⟩ ⟨by (try dsimp only); omega, by (try dsimp only); omega⟩ rfl (Nat.le_of_ble_eq_true rfl) dX10_show_2 ?_
  rintro _ _ ⟨rfl, rfl⟩
  refine pw_stk (st' := [.int (iZ (obLen X))]) rfl ?_
  have g_301 := obLen_rg hR ho
  refine pw_iconst C dX10_show_5 ?_
  refine pw_icmp_ne (tgt := 22) C (by omega) (by omega) dX10_show_6 (by decide) (fun h_302 => ?_) (fun h_302 => ?_)
  · refine pw_iconst C dX10_show_22 ?_
    exact pw_iret C hr dX10_show_23 (rCc.of (R0 := (2, none, 0, 0, nk)) (if_neg (by omega)) ⟨x, t, n, sN, fZ, rfl, ⟨h0, hR, hK, hD, ⟨hBt, hWk, hIt, hEv, hTp, hTl, hMp⟩, hO, h7, h10, h32, h37, h39, h40, h41, h45, h47, h69, h38⟩, Ext.rf, by omega, by omega, ⟨rfl, rfl, rfl⟩, fun k hk => rfl⟩)
  · refine pw_aload_n (i := 0) C dX10_show_9 rfl rfl (Or.inr ⟨_, rfl⟩) ?_
    refine pw_aload_n (i := 0) C dX10_show_10 rfl rfl (Or.inr ⟨_, rfl⟩) ?_
    refine pw_iload_n (i := 1) C dX10_show_11 rfl rfl ?_
    refine pw_iconst C dX10_show_12 ?_
    refine pw_callV (As := [.int (iZ o), .int (iZ 1)]) (st := [.ref b]) C (m_X10_nth g l h0 hR h7 h10 hK ho (i := 1) (by omega) (fun q hq => ln_p (k := 2) (by omega) q (by omega))) my_X10_nth ml_X10_292 (pw_rec.of C h0 cl_X10.1) rfl ⟨Nat.le_of_ble_eq_true rfl, Nat.le_of_ble_eq_true rfl⟩ ⟨by (try dsimp only); omega, by (try dsimp only); omega⟩ rfl (Nat.le_of_ble_eq_true rfl) dX10_show_13 ?_
    rintro _ _ ⟨rfl, z_303, rfl, z_303q⟩
    have z_303v : Vl t n z_303 (obCar (obCdr X)) := z_303q
    have z_303r := Vl.rg hR z_303v
    refine pw_stk (st' := [.int (iZ z_303), .ref b]) rfl ?_
    refine pw_callV (As := [.int (iZ z_303)]) (st := []) C (m_X10_isNewName g l h0 hR h7 h10 hK z_303v) my_X10_isNewName ml_X10_442 (pw_rec.of C h0 cl_X10.1) rfl ⟨Nat.le_of_ble_eq_true rfl, Nat.le_of_ble_eq_true rfl⟩ ⟨by (try dsimp only); omega, by (try dsimp only); omega⟩ rfl (Nat.le_of_ble_eq_true rfl) dX10_show_16 ?_
    rintro _ _ ⟨rfl, rfl⟩
    refine pw_stk (st' := [.int (iZ (b2i (isFN (obCar (obCdr X)))))]) rfl ?_
    refine pw_if_neB (tgt := 24) C dX10_show_19 (by decide) (fun h_304 => ?_) (fun h_304 => ?_)
    · have hfn := h_304
      refine pw_aload_n (i := 0) C dX10_show_24 rfl rfl (Or.inr ⟨_, rfl⟩) ?_
      refine pw_aload_n (i := 0) C dX10_show_25 rfl rfl (Or.inr ⟨_, rfl⟩) ?_
      refine pw_iload_n (i := 1) C dX10_show_26 rfl rfl ?_
      refine pw_iconst C dX10_show_27 ?_
      refine pw_callV (As := [.int (iZ o), .int (iZ 1)]) (st := [.ref b]) C (m_X10_nth g l h0 hR h7 h10 hK ho (i := 1) (by omega) (fun q hq => ln_p (k := 2) (by omega) q (by omega))) my_X10_nth ml_X10_292 (pw_rec.of C h0 cl_X10.1) rfl ⟨Nat.le_of_ble_eq_true rfl, Nat.le_of_ble_eq_true rfl⟩ ⟨by (try dsimp only); omega, by (try dsimp only); omega⟩ rfl (Nat.le_of_ble_eq_true rfl) dX10_show_28 ?_
      rintro _ _ ⟨rfl, z_305, rfl, z_305q⟩
      have z_305v : Vl t n z_305 (obCar (obCdr X)) := z_305q
      have z_305r := Vl.rg hR z_305v
      refine pw_stk (st' := [.int (iZ z_305), .ref b]) rfl ?_
      refine pw_callV (As := [.int (iZ z_305)]) (st := []) C (m_X10_definition g l h0 hR h7 h10 hK hD h32 z_305v) my_X10_definition ml_X10_445 (pw_rec.of C h0 cl_X10.1) rfl ⟨Nat.le_of_ble_eq_true rfl, Nat.le_of_ble_eq_true rfl⟩ ⟨by (try dsimp only); omega, by (try dsimp only); omega⟩ rfl (Nat.le_of_ble_eq_true rfl) dX10_show_31 ?_
      rintro _ _ ⟨rfl, rfl⟩
      have hixr := oIx_in (X := (obCar (obCdr X))) hT40
      refine pw_stk (st' := [.int (iZ (oIx (dIx (plT T) (obCar (obCdr X)) 0) 0))]) rfl ?_
      refine pw_istore_n (i := 2) (lv' := [(0, .ref b), (1, .int (iZ o)), (2, .int (iZ (oIx (dIx (plT T) (obCar (obCdr X)) 0) 0)))]) C dX10_show_34 rfl (by decide) rfl ?_
      refine pw_iload_n (i := 2) C dX10_show_35 rfl rfl ?_
      refine pw_iconst C dX10_show_36 ?_
      refine pw_icmp_ne (tgt := 42) C (by omega) (by omega) dX10_show_37 (by decide) (fun h_306 => ?_) (fun h_306 => ?_)
      · obtain ⟨j, d, hje, hjd, hjg, hd1, hdl, hjl⟩ := oIx_yes (T := T) (X := (obCar (obCdr X))) (by omega)
        rw [hje]
        have hgj := DfM.get hDf hjg
        rw [Nat.zero_add] at hgj
        have hP6 := hT6 _ (List.mem_of_getElem? hjg)
        have hP0 := hDl _ (List.mem_of_getElem? hjg)
        have hPl := lsO_len (R0 := (plD d).2.1) hP0
        have hfm := hgj.2.1
        refine pw_iconst C dX10_show_42 ?_
        refine pw_istore_n (i := 3) (lv' := [(0, .ref b), (1, .int (iZ o)), (2, .int (iZ ((j : Nat) : Int))), (3, .int (iZ 0))]) C dX10_show_43 rfl (by decide) rfl ?_
        refine pw_aload_n (i := 0) C dX10_show_44 rfl rfl (Or.inr ⟨_, rfl⟩) ?_
        refine pw_get (j := 34) C cl_X10 fl_X10_77 (by decide) rfl h0 rfl dX10_show_45 ?_
        refine pw_stk (st' := [.ref (B 34)]) rfl ?_
        refine pw_iload_n (i := 2) C dX10_show_48 rfl rfl ?_
        have g_307 := u2 ((j : Nat) : Int)
        refine pw_iald C d2 ⟨by omega, by omega, by omega⟩ dX10_show_49 ?_
        refine pw_iconst C dX10_show_50 ?_
        refine pw_isub C dX10_show_51 ?_
        refine pw_istore (lv' := [(0, .ref b), (1, .int (iZ o)), (2, .int (iZ ((j : Nat) : Int))), (3, .int (iZ 0)), (4, .int (iZ (fm ((j : Nat) : Int) - 1)))]) C dX10_show_52 (by decide) rfl ?_
        have loop : ∀ (kk : Nat) (w1 : pw_W) (t1 : Int → Ob) (n1 : Int) (s1 : Nat) (Z1 : Int → Int) (lz : Int), kk ≤ (lsO (plD d).2.1).length → RS g w1 B t1 n1 s1 Z1 → Ext t n t1 n1 → n1 ≤ n + (((lsO (plD d).2.1).length : Nat) : Int) - ((kk : Nat) : Int) → s1 ≤ sN → w1 1000 = (b, some (mdE B (va_up (va_up x 7 n1) 10 ((s1 : Nat) : Int)))) → Vl t1 n1 lz (mkL ((lsO (plD d).2.1).drop kk)) → (∀ k, (k < 1000 ∨ 1010 < k ∨ k = 1008) → w1 k = w k) → pw_G g p l e { frames := 6, cells := 0, slots := 0, locals := 137 } s m args below meth c 5 (pw_Q g below (fun r w' => rCc g w w' b B x t n sN fu (plT T) (if obLen X = 2 then ((showC T (obCar (obCdr X))).1, (showC T (obCar (obCdr X))).2, 0, 0, nk) else (2, none, 0, 0, nk)) 10 r) args s { frames := 6, cells := 0, slots := 0, locals := 137 }) 0 0 54 [(0, .ref b), (1, .int (iZ o)), (2, .int (iZ ((j : Nat) : Int))), (3, .int (iZ lz)), (4, .int (iZ (((kk : Nat) : Int) - 1)))] [] w1 := by
          intro kk
          induction kk with
          | zero =>
            intro w1 t1 n1 s1 Z1 lz hkk hR1 hext hn1 hs1 y0 hlz hf1
            have hK1 := RK.ext hK hext
            have hR1n := hR1.n
            have hlzr := Vl.rg hR1 hlz
            have hext1 := hext.1
            rw [List.drop_zero, mk_ls hP0] at hlz
            refine pw_iload C dX10_show_54 rfl ?_
            refine pw_if_lt (tgt := 83) C (by omega) dX10_show_56 (by decide) (fun h_11 => ?_) (fun h_11 => ?_)
            · refine pw_aload_n (i := 0) C dX10_show_83 rfl rfl (Or.inr ⟨_, rfl⟩) ?_
              refine pw_aload_n (i := 0) C dX10_show_84 rfl rfl (Or.inr ⟨_, rfl⟩) ?_
              refine pw_bipush C dX10_show_85 (by decide) ?_
              refine pw_aload_n (i := 0) C dX10_show_87 rfl rfl (Or.inr ⟨_, rfl⟩) ?_
              refine pw_get (j := 33) C cl_X10 fl_X10_74 (by decide) rfl y0 rfl dX10_show_88 ?_
              refine pw_stk (st' := [.ref (B 33), .int (iZ 17), .ref b, .ref b]) rfl ?_
              refine pw_iload_n (i := 2) C dX10_show_91 rfl rfl ?_
              have c_12 := (hf1 1034 (by omega)).trans d1
              have g_13 := u1 ((j : Nat) : Int)
              refine pw_iald C c_12 ⟨by omega, by omega, by omega⟩ dX10_show_92 ?_
              refine pw_iload_n (i := 3) C dX10_show_93 rfl rfl ?_
              refine pw_aload_n (i := 0) C dX10_show_94 rfl rfl (Or.inr ⟨_, rfl⟩) ?_
              refine pw_get (j := 36) C cl_X10 fl_X10_83 (by decide) rfl y0 rfl dX10_show_95 ?_
              refine pw_stk (st' := [.ref (B 36), .int (iZ lz), .int (iZ (fn ((j : Nat) : Int))), .int (iZ 17), .ref b, .ref b]) rfl ?_
              refine pw_iload_n (i := 2) C dX10_show_98 rfl rfl ?_
              have c_14 := (hf1 1037 (by omega)).trans d4
              have g_15 := u4 ((j : Nat) : Int)
              refine pw_iald C c_14 ⟨by omega, by omega, by omega⟩ dX10_show_99 ?_
              refine pw_callV (As := [.int (iZ 17), .int (iZ (fn ((j : Nat) : Int))), .int (iZ lz), .int (iZ (fb ((j : Nat) : Int)))]) (st := [.ref b]) C (m_X10_list4 g l y0 hR1 rfl rfl hK1 (RK.v hK1 17 (by decide)) (hgj.1.ext hext) hlz (hgj.2.2.2.ext hext) (by omega)) my_X10_list4 ml_X10_457 (pw_rec.of C y0 cl_X10.1) rfl ⟨Nat.le_of_ble_eq_true rfl, Nat.le_of_ble_eq_true rfl⟩ ⟨by (try dsimp only); omega, by (try dsimp only); omega⟩ rfl (Nat.le_of_ble_eq_true rfl) dX10_show_100 ?_
              rintro _ w_28 ⟨z_16, t_17, n_18, sN_19, Z_20, rfl, e_21, R_22, x_23, hn_24, hs_25, hZ_26, z_16v, o_27⟩
              have x_231 := x_23.1
              have R_22n := R_22.n
              have v_29 := Vl.ext hlz x_23
              have v_30 := Vl.ext (hgj.1.ext hext) x_23
              have v_31 := Vl.ext (hgj.2.2.2.ext hext) x_23
              have K_32 := RK.ext hK1 x_23
              have z_16r := Vl.rg R_22 z_16v
              refine pw_stk (st' := [.int (iZ z_16), .ref b]) rfl ?_
              have G_33 := hTl.same (w' := w_28) (fun k hk => (o_27 k (by omega)).trans (hf1 k (by omega)))
              obtain ⟨q_34, q_341, q_342⟩ := G_33
              refine pw_callV (As := [.int (iZ z_16)]) (st := []) C (m_X10_tellOut g l e_21 R_22 rfl rfl K_32 z_16v (hO.same ((o_27 1015 (by omega)).trans (hf1 1015 (by omega)))) q_341 q_342) my_X10_tellOut ml_X10_427 (pw_rec.of C e_21 cl_X10.1) rfl ⟨Nat.le_of_ble_eq_true rfl, Nat.le_of_ble_eq_true rfl⟩ ⟨by (try dsimp only); omega, by (try dsimp only); omega⟩ rfl (Nat.le_of_ble_eq_true rfl) dX10_show_103 ?_
              rintro _ w_43 ⟨rfl, ⟨v_35, k_36, fk_37, e_38, O_39, e_40, g_41⟩, o_42⟩
              have G_44 : gTl g w_43 B := ⟨fk_37, e_40, g_41⟩
              refine pw_stk (st' := []) rfl ?_
              refine pw_iconst C dX10_show_106 ?_
              have R_45 := R_22.same (w' := w_43) (fun k hk => (o_42 k (by omega)))
              have D_46 := hD.same (w' := w_43) (fun k hk => (o_42 k (by omega)).trans ((o_27 k (by omega)).trans (hf1 k (by omega)))) (hext.tr x_23)
              have G_47 := hBt.same (w' := w_43) (fun k hk => (o_42 k (by omega)).trans ((o_27 k (by omega)).trans (hf1 k (by omega))))
              have G_48 := hWk.same (w' := w_43) (fun k hk => (o_42 k (by omega)).trans ((o_27 k (by omega)).trans (hf1 k (by omega))))
              have G_49 := hIt.same (w' := w_43) (fun k hk => (o_42 k (by omega)).trans ((o_27 k (by omega)).trans (hf1 k (by omega))))
              have G_50 := hEv.same (w' := w_43) (fun k hk => (o_42 k (by omega)).trans ((o_27 k (by omega)).trans (hf1 k (by omega))))
              have G_51 := hTp.same (w' := w_43) (fun k hk => (o_42 k (by omega)).trans ((o_27 k (by omega)).trans (hf1 k (by omega))))
              have G_52 := hMp.same (w' := w_43) (fun k hk => (o_42 k (by omega)).trans ((o_27 k (by omega)).trans (hf1 k (by omega))))
              exact pw_iret C hr dX10_show_107 (rCc.of (R0 := (0, some (.add (yK 20) (.add d.1 (.add d.2.1 (.add (pl2 d.2.2).1 oNil)))), 0, 0, nk)) ((if_pos (by omega)).trans (by unfold showC; rw [if_pos hfn, hdl])) ⟨(va_up (va_up (va_up (va_up (va_up (va_up x 7 n1) 10 ((s1 : Nat) : Int)) 7 n_18) 10 ((sN_19 : Nat) : Int)) 15 v_35) 19 k_36), t_17, n_18, sN_19, Z_20, rfl, ⟨e_38, R_45, K_32, D_46, ⟨G_47, G_48, G_49, G_50, G_51, G_44, G_52⟩, O_39, rfl, rfl, h32, h37, h39, h40, h41, h45, h47, h69, h38⟩, (hext.tr x_23), by omega, by omega, ⟨rfl, rfl, rfl⟩, fun k hk => (o_42 k (by omega)).trans ((o_27 k (by omega)).trans (hf1 k (by omega)))⟩)
            · exfalso; omega
          | succ kk ih =>
            intro w1 t1 n1 s1 Z1 lz hkk hR1 hext hn1 hs1 y0 hlz hf1
            have hK1 := RK.ext hK hext
            have hR1n := hR1.n
            have hlzr := Vl.rg hR1 hlz
            have hext1 := hext.1
            rw [show ((kk + 1 : Nat) : Int) - 1 = ((kk : Nat) : Int) by omega]
            obtain ⟨Y, hY⟩ : ∃ Y, (lsO (plD d).2.1)[kk]? = some Y := ⟨_, List.getElem?_eq_getElem (by omega)⟩
            have hvk := (VlsI.mem kk hgj.2.2.1 hY).ext hext
            have hvkr := Vl.rg hR1 hvk
            refine pw_iload C dX10_show_54 rfl ?_
            refine pw_if_lt (tgt := 83) C (by omega) dX10_show_56 (by decide) (fun h_51 => ?_) (fun h_51 => ?_)
            · exfalso; omega
            · refine pw_aload_n (i := 0) C dX10_show_59 rfl rfl (Or.inr ⟨_, rfl⟩) ?_
              refine pw_aload_n (i := 0) C dX10_show_60 rfl rfl (Or.inr ⟨_, rfl⟩) ?_
              refine pw_get (j := 35) C cl_X10 fl_X10_80 (by decide) rfl y0 rfl dX10_show_61 ?_
              refine pw_stk (st' := [.ref (B 35), .ref b]) rfl ?_
              refine pw_bipush C dX10_show_64 (by decide) ?_
              refine pw_iload_n (i := 2) C dX10_show_66 rfl rfl ?_
              refine pw_imul C dX10_show_67 ?_
              refine pw_iload C dX10_show_68 rfl ?_
              refine pw_iadd C dX10_show_70 ?_
              have c_52 := (hf1 1036 (by omega)).trans d3
              have g_53 := u3 ((6 * ((j : Nat) : Int)) + ((kk : Nat) : Int))
              refine pw_iald C c_52 ⟨by omega, by omega, by omega⟩ dX10_show_71 ?_
              refine pw_iload_n (i := 3) C dX10_show_72 rfl rfl ?_
              refine pw_callV (As := [.int (iZ (dv ((6 * ((j : Nat) : Int)) + ((kk : Nat) : Int)))), .int (iZ lz)]) (st := []) C (rd_pair g l y0 hR1 rfl rfl hvk hlz (by omega)) my_X10_pair ml_X10_183 (pw_rec.of C y0 cl_X10.1) rfl ⟨Nat.le_of_ble_eq_true rfl, Nat.le_of_ble_eq_true rfl⟩ ⟨by (try dsimp only); omega, by (try dsimp only); omega⟩ rfl (Nat.le_of_ble_eq_true rfl) dX10_show_73 ?_
              rintro _ w_66 ⟨z_54, t_55, n_56, sN_57, Z_58, rfl, e_59, R_60, x_61, hn_62, hs_63, hZ_64, z_54v, o_65⟩
              have x_611 := x_61.1
              have R_60n := R_60.n
              have v_67 := Vl.ext hlz x_61
              have v_68 := Vl.ext hvk x_61
              have K_69 := RK.ext hK1 x_61
              have z_54r := Vl.rg R_60 z_54v
              refine pw_stk (st' := [.int (iZ z_54)]) rfl ?_
              refine pw_istore_n (i := 3) (lv' := [(0, .ref b), (1, .int (iZ o)), (2, .int (iZ ((j : Nat) : Int))), (3, .int (iZ z_54)), (4, .int (iZ ((kk : Nat) : Int)))]) C dX10_show_76 rfl (by decide) rfl ?_
              refine pw_iinc (lv' := [(0, .ref b), (1, .int (iZ o)), (2, .int (iZ ((j : Nat) : Int))), (3, .int (iZ z_54)), (4, .int (iZ (((kk : Nat) : Int) + (-1))))]) C dX10_show_77 rfl (by decide) rfl ?_
              refine pw_goto (tgt := 54) C dX10_show_80 (by decide) ?_
              rw [show ((kk : Nat) : Int) + (-1) = ((kk : Nat) : Int) - 1 by omega]
              exact ih w_66 t_55 n_56 sN_57 Z_58 z_54 (by omega) R_60 (hext.tr x_61) (by omega) (by omega) (by rw [e_59]; rfl) (by rw [drop1 hY]; exact z_54v) (fun k hk => (o_65 k (by omega)).trans (hf1 k (by omega)))
        rw [hfm, show obLen (plD d).2.1 - 1 = (((lsO (plD d).2.1).length : Nat) : Int) - 1 by omega]
        exact loop (lsO (plD d).2.1).length w t n sN fZ 0 (Nat.le_refl _) hR Ext.rf (by omega) (Nat.le_refl _) (by rw [h0, ← h7, ← h10]; rfl) (by rw [List.drop_length]; exact hK.nil) (fun _ _ => rfl)
      · refine pw_iconst C dX10_show_40 ?_
        exact pw_iret C hr dX10_show_41 (rCc.of (R0 := (3, none, 0, 0, nk)) ((if_pos (by omega)).trans (by unfold showC; rw [if_pos hfn, oIx_no (by omega)])) ⟨x, t, n, sN, fZ, rfl, ⟨h0, hR, hK, hD, ⟨hBt, hWk, hIt, hEv, hTp, hTl, hMp⟩, hO, h7, h10, h32, h37, h39, h40, h41, h45, h47, h69, h38⟩, Ext.rf, by omega, by omega, ⟨rfl, rfl, rfl⟩, fun k hk => rfl⟩)
    · refine pw_iconst C dX10_show_22 ?_
      exact pw_iret C hr dX10_show_23 (rCc.of (R0 := (2, none, 0, 0, nk)) ((if_pos (by omega)).trans (by unfold showC; rw [if_neg (by rw [h_304]; decide)])) ⟨x, t, n, sN, fZ, rfl, ⟨h0, hR, hK, hD, ⟨hBt, hWk, hIt, hEv, hTp, hTl, hMp⟩, hO, h7, h10, h32, h37, h39, h40, h41, h45, h47, h69, h38⟩, Ext.rf, by omega, by omega, ⟨rfl, rfl, rfl⟩, fun k hk => rfl⟩)

