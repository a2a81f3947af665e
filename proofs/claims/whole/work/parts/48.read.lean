theorem rFa_le {f : Int → Int} {i j : Int} {wd : Nat} {dn : Option Ob} {F : List Rf} : rFa f i j wd dn F ≤ 5 := by
  unfold rFa
  split
  · decide
  · split
    · decide
    · split
      · decide
      · split
        · decide
        · split <;> decide
theorem rRun_f {f : Int → Int} {len i : Int} {m wd : Nat} {dn : Option Ob} {F : List Rf} (h : ¬ len ≤ i) (hf : ¬ rFa f i (rEnd f len i) wd dn F = 0) : rRun f len (m + 1) i wd dn F = (rFa f i (rEnd f len i) wd dn F, i, oNil) := by
  rw [rRun.eq_def]; simp only; rw [if_neg h, if_neg hf]
theorem rRun_s {f : Int → Int} {len i : Int} {m wd : Nat} {dn : Option Ob} {F : List Rf} (h : ¬ len ≤ i) (hf : rFa f i (rEnd f len i) wd dn F = 0) : rRun f len (m + 1) i wd dn F = rRun f len m (rBl f (len - rEnd f len i).toNat false (rEnd f len i)) (wd + 1) (rTk f i (rEnd f len i) dn F).1 (rTk f i (rEnd f len i) dn F).2 := by
  rw [rRun.eq_def]; simp only; rw [if_neg h, if_pos hf]
theorem atL_0 : atL 0 = false := by decide +kernel
theorem rFa_nz {f : Int → Int} {i j : Int} {wd : Nat} {dn : Option Ob} {F : List Rf} (h : rFa f i j wd dn F = 0) : f i ≠ 0 := by
  intro e
  rcases (rFa_0 h).1 with q | q | q | q | q
  · omega
  · omega
  · omega
  · omega
  · rw [e, atL_0] at q; cases q
/-- the reader at rest: text, its length, the fault and its place -/
def RdJ (g : pw_P) (w : pw_W) (A : Nat → Nat) (ln fa pl : Int) (f : Int → Int) : Prop :=
  ∃ (ic op wd am sp : Int) (dg : Bool) (it fi aw : Int → Int), w 8 = (A 8, some (rdE A ln fa pl ic op wd dg am sp)) ∧ w 9 = (A 9, some (AC g 3000 f)) ∧ w 10 = (A 10, some (AI g 1000 it)) ∧ w 11 = (A 11, some (AI g 41 fi)) ∧ w 12 = (A 12, some (AI g 41 aw)) ∧ (∀ j, inI (it j)) ∧ (∀ j, inI (fi j)) ∧ (∀ j, inI (aw j))
theorem RdJ.same {g : pw_P} {w w' : pw_W} {A : Nat → Nat} {ln fa pl : Int} {f : Int → Int} (h : RdJ g w A ln fa pl f) (hf : ∀ k, (8 ≤ k ∧ k ≤ 12) → w' k = w k) : RdJ g w' A ln fa pl f := by
  obtain ⟨ic, op, wd, am, sp, dg, it, fi, aw, k8, k9, k10, k11, k12, ki, kf, ka⟩ := h
  exact ⟨ic, op, wd, am, sp, dg, it, fi, aw, (hf 8 (by omega)).trans k8, (hf 9 (by omega)).trans k9, (hf 10 (by omega)).trans k10, (hf 11 (by omega)).trans k11, (hf 12 (by omega)).trans k12, ki, kf, ka⟩
theorem RdS.J {g : pw_P} {w : pw_W} {A : Nat → Nat} {t : Int → Ob} {n : Int} {dn : Option Ob} {F : List Rf} {ln fa pl wd : Int} {dg : Bool} {am sp : Int} {f : Int → Int} (h : RdS g w A t n dn F ln fa pl wd dg am sp f) : RdJ g w A ln fa pl f := by
  obtain ⟨it, fi, aw, k8, k9, k10, k11, k12, ki, kf, ka, -⟩ := h
  exact ⟨_, _, _, _, _, _, it, fi, aw, k8, k9, k10, k11, k12, ki, kf, ka⟩
theorem RdJ.rec {g : pw_P} {p : Program} {s : State} {m : MethodId} {args : Array Value} {meth : Method} {c : Code} {cc : ByteArray} {nL : Nat} {own : String} {w : pw_W} {A : Nat → Nat} {ln fa pl : Int} {f : Int → Int} (C : pw_C g p s m args meth c cc nL own) (h : RdJ g w A ln fa pl f) : pw_rec g s w (A 8) RX5 := by
  obtain ⟨ic, op, wd, am, sp, dg, it, fi, aw, k8, -⟩ := h
  exact pw_rec.of C k8 cl_X5.1
set_option maxRecDepth 100000 in
set_option maxHeartbeats 4000000 in
/-- clear -/
theorem rd_clear (g : pw_P) (l : Launch) {w : pw_W} {A : Nat → Nat} {ln fa pl : Int} {f : Int → Int} (hJ : RdJ g w A ln fa pl f) : pw_M g l yX5_clear cX5_clear 1 none { frames := 0, cells := 0, slots := 0, locals := 0 } [.ref (A 8)] w (fun r w' => r = none ∧ (∃ dg am sp, ∀ (t : Int → Ob) (n : Int), RdS g w' A t n none [] 0 0 (-1) ((0 : Nat) : Int) dg am sp f) ∧ ∀ k, (k < 8 ∨ 12 < k) → w' k = w k) := by
  refine pw_M.of (by decide) (Nat.le_of_ble_eq_true rfl) rfl ?_
  intro p e s m args below meth c C hr hn
  obtain ⟨ic, op, wd, am, sp, dg, it, fi, aw, k8, k9, k10, k11, k12, ki, kf, ka⟩ := id hJ
  refine pw_aload_n (i := 0) C dX5_clear_0 rfl rfl (Or.inr ⟨_, rfl⟩) ?_
  refine pw_iconst C dX5_clear_1 ?_
  refine pw_put (j := 2) C cl_X5 fl_X5_33 (by decide) rfl rfl rfl rfl rfl k8 (Nat.le_of_ble_eq_true rfl) dX5_clear_2 (fun w_3 k_1 o_2 => ?_)
  have k_4 : w_3 8 = ((A 8), some (OB 5 [.ref (A 2), .ref (A 9), .int (iZ 0), .int (iZ fa), .int (iZ pl), .ref (A 10), .int (iZ ic), .ref (A 11), .ref (A 12), .int (iZ op), .int (iZ wd), .int (iZ (b2i dg)), .long (lZ am), .long (lZ sp)])) := k_1
  refine pw_aload_n (i := 0) C dX5_clear_5 rfl rfl (Or.inr ⟨_, rfl⟩) ?_
  refine pw_iconst C dX5_clear_6 ?_
  refine pw_put (j := 3) C cl_X5 fl_X5_36 (by decide) rfl rfl rfl rfl rfl k_4 (Nat.le_of_ble_eq_true rfl) dX5_clear_7 (fun w_7 k_5 o_6 => ?_)
  have k_8 : w_7 8 = ((A 8), some (OB 5 [.ref (A 2), .ref (A 9), .int (iZ 0), .int (iZ 0), .int (iZ pl), .ref (A 10), .int (iZ ic), .ref (A 11), .ref (A 12), .int (iZ op), .int (iZ wd), .int (iZ (b2i dg)), .long (lZ am), .long (lZ sp)])) := k_5
  refine pw_aload_n (i := 0) C dX5_clear_10 rfl rfl (Or.inr ⟨_, rfl⟩) ?_
  refine pw_iconst C dX5_clear_11 ?_
  refine pw_put (j := 4) C cl_X5 fl_X5_15 (by decide) rfl rfl rfl rfl rfl k_8 (Nat.le_of_ble_eq_true rfl) dX5_clear_12 (fun w_11 k_9 o_10 => ?_)
  have k_12 : w_11 8 = ((A 8), some (OB 5 [.ref (A 2), .ref (A 9), .int (iZ 0), .int (iZ 0), .int (iZ (-1)), .ref (A 10), .int (iZ ic), .ref (A 11), .ref (A 12), .int (iZ op), .int (iZ wd), .int (iZ (b2i dg)), .long (lZ am), .long (lZ sp)])) := k_9
  refine pw_aload_n (i := 0) C dX5_clear_15 rfl rfl (Or.inr ⟨_, rfl⟩) ?_
  refine pw_iconst C dX5_clear_16 ?_
  refine pw_put (j := 6) C cl_X5 fl_X5_39 (by decide) rfl rfl rfl rfl rfl k_12 (Nat.le_of_ble_eq_true rfl) dX5_clear_17 (fun w_15 k_13 o_14 => ?_)
  have k_16 : w_15 8 = ((A 8), some (OB 5 [.ref (A 2), .ref (A 9), .int (iZ 0), .int (iZ 0), .int (iZ (-1)), .ref (A 10), .int (iZ 0), .ref (A 11), .ref (A 12), .int (iZ op), .int (iZ wd), .int (iZ (b2i dg)), .long (lZ am), .long (lZ sp)])) := k_13
  refine pw_aload_n (i := 0) C dX5_clear_20 rfl rfl (Or.inr ⟨_, rfl⟩) ?_
  refine pw_iconst C dX5_clear_21 ?_
  refine pw_put (j := 9) C cl_X5 fl_X5_42 (by decide) rfl rfl rfl rfl rfl k_16 (Nat.le_of_ble_eq_true rfl) dX5_clear_22 (fun w_19 k_17 o_18 => ?_)
  have k_20 : w_19 8 = ((A 8), some (OB 5 [.ref (A 2), .ref (A 9), .int (iZ 0), .int (iZ 0), .int (iZ (-1)), .ref (A 10), .int (iZ 0), .ref (A 11), .ref (A 12), .int (iZ 0), .int (iZ wd), .int (iZ (b2i dg)), .long (lZ am), .long (lZ sp)])) := k_17
  refine pw_aload_n (i := 0) C dX5_clear_25 rfl rfl (Or.inr ⟨_, rfl⟩) ?_
  refine pw_iconst C dX5_clear_26 ?_
  refine pw_put (j := 10) C cl_X5 fl_X5_45 (by decide) rfl rfl rfl rfl rfl k_20 (Nat.le_of_ble_eq_true rfl) dX5_clear_27 (fun w_23 k_21 o_22 => ?_)
  have k_24 : w_23 8 = ((A 8), some (OB 5 [.ref (A 2), .ref (A 9), .int (iZ 0), .int (iZ 0), .int (iZ (-1)), .ref (A 10), .int (iZ 0), .ref (A 11), .ref (A 12), .int (iZ 0), .int (iZ 0), .int (iZ (b2i dg)), .long (lZ am), .long (lZ sp)])) := k_21
  refine pw_aload_n (i := 0) C dX5_clear_30 rfl rfl (Or.inr ⟨_, rfl⟩) ?_
  refine pw_get (j := 8) C cl_X5 fl_X5_26 (by decide) rfl k_24 rfl dX5_clear_31 ?_
  refine pw_iconst C dX5_clear_34 ?_
  refine pw_iconst C dX5_clear_35 ?_
  have c_25 := ((o_22 12 (by omega)).trans ((o_18 12 (by omega)).trans ((o_14 12 (by omega)).trans ((o_10 12 (by omega)).trans ((o_6 12 (by omega)).trans (o_2 12 (by omega))))))).trans k12
  refine pw_iast C c_25 ⟨by omega, by omega, by omega⟩ dX5_clear_36 (fun w_28 k_26 o_27 => ?_)
  have c_29 := (o_27 8 (by omega)).trans k_24
  have c_30 := ((o_27 9 (by omega)).trans ((o_22 9 (by omega)).trans ((o_18 9 (by omega)).trans ((o_14 9 (by omega)).trans ((o_10 9 (by omega)).trans ((o_6 9 (by omega)).trans (o_2 9 (by omega)))))))).trans k9
  have c_31 := ((o_27 10 (by omega)).trans ((o_22 10 (by omega)).trans ((o_18 10 (by omega)).trans ((o_14 10 (by omega)).trans ((o_10 10 (by omega)).trans ((o_6 10 (by omega)).trans (o_2 10 (by omega)))))))).trans k10
  have c_32 := ((o_27 11 (by omega)).trans ((o_22 11 (by omega)).trans ((o_18 11 (by omega)).trans ((o_14 11 (by omega)).trans ((o_10 11 (by omega)).trans ((o_6 11 (by omega)).trans (o_2 11 (by omega)))))))).trans k11
  exact pw_vret C hr dX5_clear_37 ⟨rfl, ⟨_, _, _, fun t n => ⟨it, fi, _, c_29, c_30, c_31, c_32, k_26, ki, kf, upz_inI ka (by decide), upz_self _ _ _, trivial, trivial⟩⟩, fun k hk => (o_27 k (by omega)).trans ((o_22 k (by omega)).trans ((o_18 k (by omega)).trans ((o_14 k (by omega)).trans ((o_10 k (by omega)).trans ((o_6 k (by omega)).trans (o_2 k (by omega)))))))⟩

set_option maxRecDepth 100000 in
set_option maxHeartbeats 4000000 in
/-- append -/
theorem rd_append (g : pw_P) (l : Launch) {w : pw_W} {A : Nat → Nat} {ln fa pl : Int} {f : Int → Int} (hJ : RdJ g w A ln fa pl f) {c0 : Int} (hc : 0 ≤ c0 ∧ c0 < 256) (hln : 0 ≤ ln ∧ ln < 3000) : pw_M g l yX5_append cX5_append 2 none { frames := 0, cells := 0, slots := 0, locals := 0 } [.ref (A 8), .int (iZ c0)] w (fun r w' => r = none ∧ RdJ g w' A (ln + 1) fa pl (upz f ln c0) ∧ ∀ k, (k < 8 ∨ 12 < k) → w' k = w k) := by
  refine pw_M.of (by decide) (Nat.le_of_ble_eq_true rfl) rfl ?_
  intro p e s m args below meth c C hr hn
  obtain ⟨ic, op, wd, am, sp, dg, it, fi, aw, k8, k9, k10, k11, k12, ki, kf, ka⟩ := id hJ
  refine pw_aload_n (i := 0) C dX5_append_0 rfl rfl (Or.inr ⟨_, rfl⟩) ?_
  refine pw_get (j := 2) C cl_X5 fl_X5_33 (by decide) rfl k8 rfl dX5_append_1 ?_
  refine pw_sipush C dX5_append_4 (by decide) ?_
  refine pw_icmp_ge (tgt := 30) C (by omega) (by omega) dX5_append_7 (by decide) (fun h_1 => ?_) (fun h_1 => ?_)
  · exfalso; omega
  · refine pw_aload_n (i := 0) C dX5_append_10 rfl rfl (Or.inr ⟨_, rfl⟩) ?_
    refine pw_get (j := 1) C cl_X5 fl_X5_9 (by decide) rfl k8 rfl dX5_append_11 ?_
    refine pw_aload_n (i := 0) C dX5_append_14 rfl rfl (Or.inr ⟨_, rfl⟩) ?_
    refine pw_get (j := 2) C cl_X5 fl_X5_33 (by decide) rfl k8 rfl dX5_append_15 ?_
    refine pw_iload_n (i := 1) C dX5_append_18 rfl rfl ?_
    refine pw_cast C k9 ⟨by omega, by omega, by omega⟩ (char_nar (by omega)) dX5_append_19 (fun w_4 k_2 o_3 => ?_)
    refine pw_aload_n (i := 0) C dX5_append_20 rfl rfl (Or.inr ⟨_, rfl⟩) ?_
    refine pw_dup C dX5_append_21 rfl ?_
    have c_5 := (o_3 8 (by omega)).trans k8
    refine pw_get (j := 2) C cl_X5 fl_X5_33 (by decide) rfl c_5 rfl dX5_append_22 ?_
    refine pw_iconst C dX5_append_25 ?_
    refine pw_iadd C dX5_append_26 ?_
    refine pw_put (j := 2) C cl_X5 fl_X5_33 (by decide) rfl rfl rfl rfl rfl c_5 (Nat.le_of_ble_eq_true rfl) dX5_append_27 (fun w_8 k_6 o_7 => ?_)
    have k_9 : w_8 8 = ((A 8), some (OB 5 [.ref (A 2), .ref (A 9), .int (iZ (ln + 1)), .int (iZ fa), .int (iZ pl), .ref (A 10), .int (iZ ic), .ref (A 11), .ref (A 12), .int (iZ op), .int (iZ wd), .int (iZ (b2i dg)), .long (lZ am), .long (lZ sp)])) := k_6
    have c_10 := (o_7 9 (by omega)).trans k_2
    have c_11 := ((o_7 10 (by omega)).trans (o_3 10 (by omega))).trans k10
    have c_12 := ((o_7 11 (by omega)).trans (o_3 11 (by omega))).trans k11
    have c_13 := ((o_7 12 (by omega)).trans (o_3 12 (by omega))).trans k12
    exact pw_vret C hr dX5_append_30 ⟨rfl, ⟨_, _, _, _, _, _, it, fi, aw, k_9, c_10, c_11, c_12, c_13, ki, kf, ka⟩, fun k hk => (o_7 k (by omega)).trans (o_3 k (by omega))⟩

set_option maxRecDepth 100000 in
set_option maxHeartbeats 4000000 in
/-- read -/
theorem m_X5_read (g : pw_P) (l : Launch) {w : pw_W} {A : Nat → Nat} {cap : Nat} {t : Int → Ob} {n : Int} {fa pl : Int} {len : Nat} {f : Int → Int} (hS : SB g w (A 2) cap t n) (hJ : RdJ g w A ((len : Nat) : Int) fa pl f) (hfc : ∀ j, 0 ≤ f j ∧ f j < 256) (hlen : len ≤ 3000) (hcap : n + 2 * (min len 1000 : Nat) ≤ cap) : pw_M g l yX5_read cX5_read 5 (some .int) { frames := 6, cells := 0, slots := 0, locals := 139 } [.ref (A 8)] w (fun r w' => ∃ (z : Int) (t' : Int → Ob) (n' : Int), r = some (.int (iZ z)) ∧ SB g w' (A 2) cap t' n' ∧ Ext t n t' n' ∧ n' ≤ n + 2 * (min (nzC f len) 1000 : Nat) ∧ RdJ g w' A 0 (((rTx f len).1 : Nat) : Int) (rTx f len).2.1 f ∧ (if (rTx f len).1 = 0 then Vl t' n' z (rTx f len).2.2 ∧ mxL (rTx f len).2.2 ≤ min len 1000 else z = -1) ∧ ∀ k, (k < 2 ∨ 12 < k) → w' k = w k) := by
  refine pw_M.of (by decide) (Nat.le_of_ble_eq_true rfl) rfl ?_
  intro p e s m args below meth c C hr hn
  obtain ⟨ic, op, wd0, am, sp, dg, it, fi, aw, k8, k9, k10, k11, k12, ki, kf, ka⟩ := id hJ
  have hn0 := hS.n
  have loop : ∀ (m0 : Nat) (w1 : pw_W) (t1 : Int → Ob) (n1 i : Int) (wd : Nat) (dn : Option Ob) (F : List Rf) (dg : Bool) (am sp : Int), SB g w1 (A 2) cap t1 n1 → Ext t n t1 n1 → RdS g w1 A t1 n1 dn F 0 0 (-1) ((wd : Nat) : Int) dg am sp f → RdP wd dn F → F.length ≤ 40 → n1 + (icn F : Nat) + 2 * (qcn F : Nat) ≤ n + 2 * wd → (0 ≤ i ∧ i ≤ ((len : Nat) : Int) ∧ wd ≤ nzC f i.toNat) → wd ≤ 1000 → m0 + wd = 1002 → rRun f ((len : Nat) : Int) m0 i wd dn F = (rTx f len) → (∀ k, (k < 2 ∨ 12 < k) → w1 k = w k) → pw_G g p l e { frames := 6, cells := 0, slots := 0, locals := 139 } s m args below meth c 5 (pw_Q g below (fun r w' => ∃ (z : Int) (t' : Int → Ob) (n' : Int), r = some (.int (iZ z)) ∧ SB g w' (A 2) cap t' n' ∧ Ext t n t' n' ∧ n' ≤ n + 2 * (min (nzC f len) 1000 : Nat) ∧ RdJ g w' A 0 (((rTx f len).1 : Nat) : Int) (rTx f len).2.1 f ∧ (if (rTx f len).1 = 0 then Vl t' n' z (rTx f len).2.2 ∧ mxL (rTx f len).2.2 ≤ min len 1000 else z = -1) ∧ ∀ k, (k < 2 ∨ 12 < k) → w' k = w k) args s { frames := 6, cells := 0, slots := 0, locals := 139 }) 0 0 18 [(0, .ref (A 8)), (1, .int (iZ ((len : Nat) : Int))), (2, .int (iZ i)), (3, .int (iZ ((wd : Nat) : Int)))] [] w1 := by
    intro m0
    induction m0 with
    | zero =>
      intro w1 t1 n1 i wd dn F dg am sp hS1 hext hR1 hP hl40 hnn hi hwd hmw hq hf1
      exfalso
      omega
    | succ m0 ih =>
      intro w1 t1 n1 i wd dn F dg am sp hS1 hext hR1 hP hl40 hnn hi hwd hmw hq hf1
      have hn1 := hS1.n
      have hz1 := nzC_le (f := f) i.toNat
      have hz2 := nzC_mono (f := f) (i := i.toNat) (j := len) (by omega)
      have hz3 := nzC_le (f := f) len
      obtain ⟨it, fi, aw, k8, k9, k10, k11, k12, ki, kf, ka, kz, kw, kv⟩ := id hR1
      refine pw_iload_n (i := 3) C dX5_read_18 rfl rfl ?_
      refine pw_sipush C dX5_read_19 (by decide) ?_
      refine pw_icmp_gt (tgt := 87) C (by omega) (by omega) dX5_read_22 (by decide) (fun h_51 => ?_) (fun h_51 => ?_)
      · exfalso; omega
      · refine pw_iload_n (i := 2) C dX5_read_25 rfl rfl ?_
        refine pw_iload_n (i := 1) C dX5_read_26 rfl rfl ?_
        refine pw_icmp_ge (tgt := 87) C (by omega) (by omega) dX5_read_27 (by decide) (fun h_52 => ?_) (fun h_52 => ?_)
        · refine pw_aload_n (i := 0) C dX5_read_87 rfl rfl (Or.inr ⟨_, rfl⟩) ?_
          refine pw_get (j := 3) C cl_X5 fl_X5_36 (by decide) rfl k8 rfl dX5_read_88 ?_
          refine pw_if_ne (tgt := 109) C (by omega) dX5_read_91 (by decide) (fun h_53 => ?_) (fun h_53 => ?_)
          · exfalso; omega
          · refine pw_aload_n (i := 0) C dX5_read_94 rfl rfl (Or.inr ⟨_, rfl⟩) ?_
            refine pw_get (j := 8) C cl_X5 fl_X5_26 (by decide) rfl k8 rfl dX5_read_95 ?_
            refine pw_iconst C dX5_read_98 ?_
            have g_54 := ka 0
            refine pw_iald C k12 ⟨by omega, by omega, by omega⟩ dX5_read_99 ?_
            refine pw_iconst C dX5_read_100 ?_
            refine pw_icmp_eq (tgt := 109) C (by omega) (by omega) dX5_read_101 (by decide) (fun h_55 => ?_) (fun h_55 => ?_)
            · refine pw_aload_n (i := 0) C dX5_read_109 rfl rfl (Or.inr ⟨_, rfl⟩) ?_
              refine pw_get (j := 3) C cl_X5 fl_X5_36 (by decide) rfl k8 rfl dX5_read_110 ?_
              refine pw_if_eq (tgt := 123) C (by omega) dX5_read_113 (by decide) (fun h_56 => ?_) (fun h_56 => ?_)
              · refine pw_aload_n (i := 0) C dX5_read_123 rfl rfl (Or.inr ⟨_, rfl⟩) ?_
                refine pw_get (j := 5) C cl_X5 fl_X5_19 (by decide) rfl k8 rfl dX5_read_124 ?_
                refine pw_iconst C dX5_read_127 ?_
                have g_57 := ki 0
                refine pw_iald C k10 ⟨by omega, by omega, by omega⟩ dX5_read_128 ?_
                cases hdn : dn with
                | none => rw [hdn] at kz; exact absurd kz (by show ¬ aw 0 = 0; omega)
                | some v =>
                  subst hdn
                  have hres : (rTx f len) = (0, -1, v) := by rw [← hq, rRun, if_pos (by omega)]
                  refine pw_iret C hr dX5_read_129 ⟨_, t1, n1, rfl, (hS1.same (fun k h1 h2 => rfl)), hext, by omega, ?_, ?_, fun k hk => (rfl).trans (hf1 k hk)⟩
                  · rw [hres]; exact ⟨_, _, _, _, _, _, it, fi, aw, k8, k9, k10, k11, k12, ki, kf, ka⟩
                  · rw [hres, if_pos rfl]; exact ⟨kv.1, by show mxL v ≤ _; have := hP.2.2.2.2.1 v rfl; omega⟩
              · exfalso; omega
            · refine pw_aload_n (i := 0) C dX5_read_104 rfl rfl (Or.inr ⟨_, rfl⟩) ?_
              refine pw_iconst C dX5_read_105 ?_
              refine pw_put (j := 3) C cl_X5 fl_X5_36 (by decide) rfl rfl rfl rfl rfl k8 (Nat.le_of_ble_eq_true rfl) dX5_read_106 (fun w_60 k_58 o_59 => ?_)
              have k_61 : w_60 8 = ((A 8), some (OB 5 [.ref (A 2), .ref (A 9), .int (iZ 0), .int (iZ 3), .int (iZ (-1)), .ref (A 10), .int (iZ (((dn.toList ++ fls F).length : Nat) : Int)), .ref (A 11), .ref (A 12), .int (iZ ((F.length : Nat) : Int)), .int (iZ ((wd : Nat) : Int)), .int (iZ (b2i dg)), .long (lZ am), .long (lZ sp)])) := k_58
              refine pw_aload_n (i := 0) C dX5_read_109 rfl rfl (Or.inr ⟨_, rfl⟩) ?_
              refine pw_get (j := 3) C cl_X5 fl_X5_36 (by decide) rfl k_61 rfl dX5_read_110 ?_
              refine pw_if_eq (tgt := 123) C (by omega) dX5_read_113 (by decide) (fun h_62 => ?_) (fun h_62 => ?_)
              · exfalso; omega
              · refine pw_aload_n (i := 0) C dX5_read_116 rfl rfl (Or.inr ⟨_, rfl⟩) ?_
                refine pw_iload_n (i := 2) C dX5_read_117 rfl rfl ?_
                refine pw_put (j := 4) C cl_X5 fl_X5_15 (by decide) rfl rfl rfl rfl rfl k_61 (Nat.le_of_ble_eq_true rfl) dX5_read_118 (fun w_65 k_63 o_64 => ?_)
                have k_66 : w_65 8 = ((A 8), some (OB 5 [.ref (A 2), .ref (A 9), .int (iZ 0), .int (iZ 3), .int (iZ i), .ref (A 10), .int (iZ (((dn.toList ++ fls F).length : Nat) : Int)), .ref (A 11), .ref (A 12), .int (iZ ((F.length : Nat) : Int)), .int (iZ ((wd : Nat) : Int)), .int (iZ (b2i dg)), .long (lZ am), .long (lZ sp)])) := k_63
                refine pw_iconst C dX5_read_121 ?_
                have c_67 := ((o_64 9 (by omega)).trans (o_59 9 (by omega))).trans k9
                have c_68 := ((o_64 10 (by omega)).trans (o_59 10 (by omega))).trans k10
                have c_69 := ((o_64 11 (by omega)).trans (o_59 11 (by omega))).trans k11
                have c_70 := ((o_64 12 (by omega)).trans (o_59 12 (by omega))).trans k12
                have hdn : dn = none := by
                  cases hdn : dn with
                  | none => rfl
                  | some v => rw [hdn] at kz; exact absurd kz (by show ¬ aw 0 = 1; omega)
                subst hdn
                have hres : (rTx f len) = (3, ((len : Nat) : Int), oNil) := by rw [← hq, rRun, if_pos (by omega)]
                refine pw_iret C hr dX5_read_122 ⟨-1, t1, n1, rfl, (hS1.same (fun k h1 h2 => (o_64 k (by omega)).trans (o_59 k (by omega)))), hext, by omega, ?_, ?_, fun k hk => ((o_64 k (by omega)).trans (o_59 k (by omega))).trans (hf1 k hk)⟩
                · rw [hres]; exact ⟨_, _, _, _, _, _, it, fi, aw, by rw [k_66]; show _ = (A 8, some (rdE A 0 3 ((len : Nat) : Int) _ _ _ _ _ _)); rw [show i = ((len : Nat) : Int) by omega], c_67, c_68, c_69, c_70, ki, kf, ka⟩
                · rw [hres, if_neg (show ¬ (3 : Nat) = 0 by decide)]
        · refine pw_aload_n (i := 0) C dX5_read_30 rfl rfl (Or.inr ⟨_, rfl⟩) ?_
          refine pw_get (j := 3) C cl_X5 fl_X5_36 (by decide) rfl k8 rfl dX5_read_31 ?_
          refine pw_if_ne (tgt := 87) C (by omega) dX5_read_34 (by decide) (fun h_71 => ?_) (fun h_71 => ?_)
          · exfalso; omega
          · refine pw_aload_n (i := 0) C dX5_read_37 rfl rfl (Or.inr ⟨_, rfl⟩) ?_
            refine pw_iload_n (i := 2) C dX5_read_38 rfl rfl ?_
            refine pw_iload_n (i := 1) C dX5_read_39 rfl rfl ?_
            refine pw_callV (As := [.int (iZ i), .int (iZ ((len : Nat) : Int))]) (st := []) C (m_X5_behindWord g l k8 k9 hfc (i := i) (len := ((len : Nat) : Int)) (by omega) (by omega)) my_X5_behindWord ml_X5_55 (hR1.rec C) rfl ⟨Nat.le_of_ble_eq_true rfl, Nat.le_of_ble_eq_true rfl⟩ ⟨by (try dsimp only); omega, by (try dsimp only); omega⟩ rfl (Nat.le_of_ble_eq_true rfl) dX5_read_40 ?_
            rintro _ _ ⟨rfl, rfl⟩
            have hre := rEnd_rng (f := f) (len := ((len : Nat) : Int)) (i := i) (by omega)
            refine pw_stk (st' := [.int (iZ (rEnd f ((len : Nat) : Int) i))]) rfl ?_
            refine pw_istore (lv' := [(0, .ref (A 8)), (1, .int (iZ ((len : Nat) : Int))), (2, .int (iZ i)), (3, .int (iZ ((wd : Nat) : Int))), (4, .int (iZ (rEnd f ((len : Nat) : Int) i)))]) C dX5_read_43 (by decide) rfl ?_
            refine pw_aload_n (i := 0) C dX5_read_45 rfl rfl (Or.inr ⟨_, rfl⟩) ?_
            refine pw_aload_n (i := 0) C dX5_read_46 rfl rfl (Or.inr ⟨_, rfl⟩) ?_
            refine pw_iload_n (i := 2) C dX5_read_47 rfl rfl ?_
            refine pw_iload C dX5_read_48 rfl ?_
            refine pw_callV (As := [.int (iZ i), .int (iZ (rEnd f ((len : Nat) : Int) i))]) (st := [.ref (A 8)]) C (m_X5_faultOfWord g l hR1 hfc hl40 hwd (i := i) (j := (rEnd f ((len : Nat) : Int) i)) (by omega) (by omega) (fun ha k h1 h2 => rWe_at _ i k h1 (by have h3 := h2; unfold rEnd at h3; rw [if_pos ha] at h3; exact h3))) my_X5_faultOfWord ml_X5_58 (hR1.rec C) rfl ⟨Nat.le_of_ble_eq_true rfl, Nat.le_of_ble_eq_true rfl⟩ ⟨by (try dsimp only); omega, by (try dsimp only); omega⟩ rfl (Nat.le_of_ble_eq_true rfl) dX5_read_50 ?_
            rintro _ w2 ⟨rfl, ⟨dg2, am2, sp2, hR2, hsc⟩, ho2⟩
            obtain ⟨it2, fi2, aw2, j8, j9, j10, j11, j12, ji, jf, ja, jz, jw, jv⟩ := id hR2
            have hfa5 : (rFa f i (rEnd f ((len : Nat) : Int) i) wd dn F) ≤ 5 := rFa_le
            refine pw_stk (st' := [.int (iZ (((rFa f i (rEnd f ((len : Nat) : Int) i) wd dn F) : Nat) : Int)), .ref (A 8)]) rfl ?_
            refine pw_put (j := 3) C cl_X5 fl_X5_36 (by decide) rfl rfl rfl rfl rfl j8 (Nat.le_of_ble_eq_true rfl) dX5_read_53 (fun w_74 k_72 o_73 => ?_)
            have k_75 : w_74 8 = ((A 8), some (OB 5 [.ref (A 2), .ref (A 9), .int (iZ 0), .int (iZ (((rFa f i (rEnd f ((len : Nat) : Int) i) wd dn F) : Nat) : Int)), .int (iZ (-1)), .ref (A 10), .int (iZ (((dn.toList ++ fls F).length : Nat) : Int)), .ref (A 11), .ref (A 12), .int (iZ ((F.length : Nat) : Int)), .int (iZ ((wd : Nat) : Int)), .int (iZ (b2i dg2)), .long (lZ am2), .long (lZ sp2)])) := k_72
            refine pw_aload_n (i := 0) C dX5_read_56 rfl rfl (Or.inr ⟨_, rfl⟩) ?_
            refine pw_get (j := 3) C cl_X5 fl_X5_36 (by decide) rfl k_75 rfl dX5_read_57 ?_
            refine pw_if_ne (tgt := 81) C (by omega) dX5_read_60 (by decide) (fun h_76 => ?_) (fun h_76 => ?_)
            · have hfn : ¬ (rFa f i (rEnd f ((len : Nat) : Int) i) wd dn F) = 0 := by omega
              refine pw_iinc (lv' := [(0, .ref (A 8)), (1, .int (iZ ((len : Nat) : Int))), (2, .int (iZ i)), (3, .int (iZ (((wd : Nat) : Int) + 1))), (4, .int (iZ (rEnd f ((len : Nat) : Int) i)))]) C dX5_read_81 rfl (by decide) rfl ?_
              refine pw_goto (tgt := 18) C dX5_read_84 (by decide) ?_
              refine pw_iload_n (i := 3) C dX5_read_18 rfl rfl ?_
              refine pw_sipush C dX5_read_19 (by decide) ?_
              refine pw_icmp_gt (tgt := 87) C (by omega) (by omega) dX5_read_22 (by decide) (fun h_77 => ?_) (fun h_77 => ?_)
              · refine pw_aload_n (i := 0) C dX5_read_87 rfl rfl (Or.inr ⟨_, rfl⟩) ?_
                refine pw_get (j := 3) C cl_X5 fl_X5_36 (by decide) rfl k_75 rfl dX5_read_88 ?_
                refine pw_if_ne (tgt := 109) C (by omega) dX5_read_91 (by decide) (fun h_78 => ?_) (fun h_78 => ?_)
                · refine pw_aload_n (i := 0) C dX5_read_109 rfl rfl (Or.inr ⟨_, rfl⟩) ?_
                  refine pw_get (j := 3) C cl_X5 fl_X5_36 (by decide) rfl k_75 rfl dX5_read_110 ?_
                  refine pw_if_eq (tgt := 123) C (by omega) dX5_read_113 (by decide) (fun h_79 => ?_) (fun h_79 => ?_)
                  · exfalso; omega
                  · refine pw_aload_n (i := 0) C dX5_read_116 rfl rfl (Or.inr ⟨_, rfl⟩) ?_
                    refine pw_iload_n (i := 2) C dX5_read_117 rfl rfl ?_
                    refine pw_put (j := 4) C cl_X5 fl_X5_15 (by decide) rfl rfl rfl rfl rfl k_75 (Nat.le_of_ble_eq_true rfl) dX5_read_118 (fun w_82 k_80 o_81 => ?_)
                    have k_83 : w_82 8 = ((A 8), some (OB 5 [.ref (A 2), .ref (A 9), .int (iZ 0), .int (iZ (((rFa f i (rEnd f ((len : Nat) : Int) i) wd dn F) : Nat) : Int)), .int (iZ i), .ref (A 10), .int (iZ (((dn.toList ++ fls F).length : Nat) : Int)), .ref (A 11), .ref (A 12), .int (iZ ((F.length : Nat) : Int)), .int (iZ ((wd : Nat) : Int)), .int (iZ (b2i dg2)), .long (lZ am2), .long (lZ sp2)])) := k_80
                    refine pw_iconst C dX5_read_121 ?_
                    have c_84 := ((o_81 9 (by omega)).trans (o_73 9 (by omega))).trans j9
                    have c_85 := ((o_81 10 (by omega)).trans (o_73 10 (by omega))).trans j10
                    have c_86 := ((o_81 11 (by omega)).trans (o_73 11 (by omega))).trans j11
                    have c_87 := ((o_81 12 (by omega)).trans (o_73 12 (by omega))).trans j12
                    have hres : (rTx f len) = ((rFa f i (rEnd f ((len : Nat) : Int) i) wd dn F), i, oNil) := by rw [← hq]; exact rRun_f (by omega) hfn
                    refine pw_iret C hr dX5_read_122 ⟨-1, t1, n1, rfl, (hS1.same (fun k h1 h2 => (o_81 k (by omega)).trans ((o_73 k (by omega)).trans (ho2 k (by omega))))), hext, by omega, ?_, ?_, fun k hk => ((o_81 k (by omega)).trans ((o_73 k (by omega)).trans (ho2 k (by omega)))).trans (hf1 k hk)⟩
                    · rw [hres]; exact ⟨_, _, _, _, _, _, it2, fi2, aw2, by rw [k_83], c_84, c_85, c_86, c_87, ji, jf, ja⟩
                    · rw [hres, if_neg hfn]
                · exfalso; omega
              · refine pw_iload_n (i := 2) C dX5_read_25 rfl rfl ?_
                refine pw_iload_n (i := 1) C dX5_read_26 rfl rfl ?_
                refine pw_icmp_ge (tgt := 87) C (by omega) (by omega) dX5_read_27 (by decide) (fun h_88 => ?_) (fun h_88 => ?_)
                · exfalso; omega
                · refine pw_aload_n (i := 0) C dX5_read_30 rfl rfl (Or.inr ⟨_, rfl⟩) ?_
                  refine pw_get (j := 3) C cl_X5 fl_X5_36 (by decide) rfl k_75 rfl dX5_read_31 ?_
                  refine pw_if_ne (tgt := 87) C (by omega) dX5_read_34 (by decide) (fun h_89 => ?_) (fun h_89 => ?_)
                  · refine pw_aload_n (i := 0) C dX5_read_87 rfl rfl (Or.inr ⟨_, rfl⟩) ?_
                    refine pw_get (j := 3) C cl_X5 fl_X5_36 (by decide) rfl k_75 rfl dX5_read_88 ?_
                    refine pw_if_ne (tgt := 109) C (by omega) dX5_read_91 (by decide) (fun h_90 => ?_) (fun h_90 => ?_)
                    · refine pw_aload_n (i := 0) C dX5_read_109 rfl rfl (Or.inr ⟨_, rfl⟩) ?_
                      refine pw_get (j := 3) C cl_X5 fl_X5_36 (by decide) rfl k_75 rfl dX5_read_110 ?_
                      refine pw_if_eq (tgt := 123) C (by omega) dX5_read_113 (by decide) (fun h_91 => ?_) (fun h_91 => ?_)
                      · exfalso; omega
                      · refine pw_aload_n (i := 0) C dX5_read_116 rfl rfl (Or.inr ⟨_, rfl⟩) ?_
                        refine pw_iload_n (i := 2) C dX5_read_117 rfl rfl ?_
                        refine pw_put (j := 4) C cl_X5 fl_X5_15 (by decide) rfl rfl rfl rfl rfl k_75 (Nat.le_of_ble_eq_true rfl) dX5_read_118 (fun w_94 k_92 o_93 => ?_)
                        have k_95 : w_94 8 = ((A 8), some (OB 5 [.ref (A 2), .ref (A 9), .int (iZ 0), .int (iZ (((rFa f i (rEnd f ((len : Nat) : Int) i) wd dn F) : Nat) : Int)), .int (iZ i), .ref (A 10), .int (iZ (((dn.toList ++ fls F).length : Nat) : Int)), .ref (A 11), .ref (A 12), .int (iZ ((F.length : Nat) : Int)), .int (iZ ((wd : Nat) : Int)), .int (iZ (b2i dg2)), .long (lZ am2), .long (lZ sp2)])) := k_92
                        refine pw_iconst C dX5_read_121 ?_
                        have c_96 := ((o_93 9 (by omega)).trans (o_73 9 (by omega))).trans j9
                        have c_97 := ((o_93 10 (by omega)).trans (o_73 10 (by omega))).trans j10
                        have c_98 := ((o_93 11 (by omega)).trans (o_73 11 (by omega))).trans j11
                        have c_99 := ((o_93 12 (by omega)).trans (o_73 12 (by omega))).trans j12
                        have hres : (rTx f len) = ((rFa f i (rEnd f ((len : Nat) : Int) i) wd dn F), i, oNil) := by rw [← hq]; exact rRun_f (by omega) hfn
                        refine pw_iret C hr dX5_read_122 ⟨-1, t1, n1, rfl, (hS1.same (fun k h1 h2 => (o_93 k (by omega)).trans ((o_73 k (by omega)).trans (ho2 k (by omega))))), hext, by omega, ?_, ?_, fun k hk => ((o_93 k (by omega)).trans ((o_73 k (by omega)).trans (ho2 k (by omega)))).trans (hf1 k hk)⟩
                        · rw [hres]; exact ⟨_, _, _, _, _, _, it2, fi2, aw2, by rw [k_95], c_96, c_97, c_98, c_99, ji, jf, ja⟩
                        · rw [hres, if_neg hfn]
                    · exfalso; omega
                  · exfalso; omega
            · have hfz : (rFa f i (rEnd f ((len : Nat) : Int) i) wd dn F) = 0 := by omega
              have hdn := hP.none (rFa_0 hfz).2.2.1
              subst hdn
              refine pw_aload_n (i := 0) C dX5_read_63 rfl rfl (Or.inr ⟨_, rfl⟩) ?_
              refine pw_aload_n (i := 0) C dX5_read_64 rfl rfl (Or.inr ⟨_, rfl⟩) ?_
              refine pw_get (j := 1) C cl_X5 fl_X5_9 (by decide) rfl k_75 rfl dX5_read_65 ?_
              refine pw_iload_n (i := 2) C dX5_read_68 rfl rfl ?_
              have c_100 := (o_73 9 (by omega)).trans j9
              have g_101 := hfc i
              refine pw_cald C c_100 ⟨by omega, by omega, by omega⟩ dX5_read_69 ?_
              have hwd1 := (rFa_0 hfz).2.2.2.2
              have hR3 : RdS g w_74 A t1 n1 none F 0 0 (-1) ((wd : Nat) : Int) dg2 am2 sp2 f := hR2.obj (by rw [k_75, hfz]; rfl) (fun k hk => (o_73 k (by omega)))
              have hS3 := hS1.same (w' := w_74) (fun k h1 h2 => (o_73 k (by omega)).trans (ho2 k (by omega)))
              refine pw_callV (As := [.int (iZ (f i))]) (st := []) C (m_X5_take g l hS3 hR3 hfc hl40 hwd (i := i) (j := (rEnd f ((len : Nat) : Int) i)) hP hfz hsc (by omega)) my_X5_take ml_X5_61 (hR3.rec C) rfl ⟨Nat.le_of_ble_eq_true rfl, Nat.le_of_ble_eq_true rfl⟩ ⟨by (try dsimp only); omega, by (try dsimp only); omega⟩ rfl (Nat.le_of_ble_eq_true rfl) dX5_read_70 ?_
              rintro _ w4 ⟨rfl, t4, n4, hS4, hx4, hn4, hR4, ho4⟩
              obtain ⟨hP4, hl4⟩ := rTk_ok hP hl40 hfz
              refine pw_stk (st' := []) rfl ?_
              refine pw_aload_n (i := 0) C dX5_read_73 rfl rfl (Or.inr ⟨_, rfl⟩) ?_
              refine pw_iload C dX5_read_74 rfl ?_
              refine pw_iload_n (i := 1) C dX5_read_76 rfl rfl ?_
              obtain ⟨itb, fib, awb, kb8, kb9, -⟩ := id hR4
              refine pw_callV (As := [.int (iZ (rEnd f ((len : Nat) : Int) i)), .int (iZ ((len : Nat) : Int))]) (st := []) C (m_X5_behindBlanks g l kb8 kb9 hfc (i := (rEnd f ((len : Nat) : Int) i)) (len := ((len : Nat) : Int)) (by omega) (by omega)) my_X5_behindBlanks ml_X5_51 (hR4.rec C) rfl ⟨Nat.le_of_ble_eq_true rfl, Nat.le_of_ble_eq_true rfl⟩ ⟨by (try dsimp only); omega, by (try dsimp only); omega⟩ rfl (Nat.le_of_ble_eq_true rfl) dX5_read_77 ?_
              rintro _ _ ⟨rfl, rfl⟩
              have g_102 := rBl_rng (f := f) (((len : Nat) : Int) - (rEnd f ((len : Nat) : Int) i)).toNat false (rEnd f ((len : Nat) : Int) i)
              refine pw_stk (st' := [.int (iZ (rBl f (((len : Nat) : Int) - (rEnd f ((len : Nat) : Int) i)).toNat false (rEnd f ((len : Nat) : Int) i)))]) rfl ?_
              refine pw_istore_n (i := 2) (lv' := [(0, .ref (A 8)), (1, .int (iZ ((len : Nat) : Int))), (2, .int (iZ (rBl f (((len : Nat) : Int) - (rEnd f ((len : Nat) : Int) i)).toNat false (rEnd f ((len : Nat) : Int) i)))), (3, .int (iZ ((wd : Nat) : Int))), (4, .int (iZ (rEnd f ((len : Nat) : Int) i)))]) C dX5_read_80 rfl (by decide) rfl ?_
              refine pw_iinc (lv' := [(0, .ref (A 8)), (1, .int (iZ ((len : Nat) : Int))), (2, .int (iZ (rBl f (((len : Nat) : Int) - (rEnd f ((len : Nat) : Int) i)).toNat false (rEnd f ((len : Nat) : Int) i)))), (3, .int (iZ (((wd : Nat) : Int) + 1))), (4, .int (iZ (rEnd f ((len : Nat) : Int) i)))]) C dX5_read_81 rfl (by decide) rfl ?_
              refine pw_goto (tgt := 18) C dX5_read_84 (by decide) ?_
              refine pw_sub [0, 1, 2, 3] rfl ?_
              rw [show ((wd : Nat) : Int) + 1 = ((wd + 1 : Nat) : Int) by omega]
              have hz5 := nzC_one (f := f) (i := i.toNat) (by rw [show ((i.toNat : Nat) : Int) = i by omega]; exact rFa_nz hfz)
              have hz6 := nzC_mono (f := f) (i := i.toNat + 1) (j := (rBl f (((len : Nat) : Int) - (rEnd f ((len : Nat) : Int) i)).toNat false (rEnd f ((len : Nat) : Int) i)).toNat) (by omega)
              exact ih w4 t4 n4 _ (wd + 1) _ _ dg2 am2 sp2 hS4 (hext.tr hx4) hR4 hP4 hl4 (by omega) (by omega) (by omega) (by omega) (by rw [← hq]; exact (rRun_s (by omega) hfz).symm) (fun k hk => ((ho4 k (by omega)).trans ((o_73 k (by omega)).trans (ho2 k (by omega)))).trans (hf1 k hk))
  refine pw_aload_n (i := 0) C dX5_read_0 rfl rfl (Or.inr ⟨_, rfl⟩) ?_
  refine pw_get (j := 2) C cl_X5 fl_X5_33 (by decide) rfl k8 rfl dX5_read_1 ?_
  refine pw_istore_n (i := 1) (lv' := [(0, .ref (A 8)), (1, .int (iZ ((len : Nat) : Int)))]) C dX5_read_4 rfl (by decide) rfl ?_
  refine pw_aload_n (i := 0) C dX5_read_5 rfl rfl (Or.inr ⟨_, rfl⟩) ?_
  refine pw_callV (As := []) (st := []) C (rd_clear g l hJ) my_X5_clear ml_X5_48 (hJ.rec C) rfl ⟨Nat.le_of_ble_eq_true rfl, Nat.le_of_ble_eq_true rfl⟩ ⟨by (try dsimp only); omega, by (try dsimp only); omega⟩ rfl (Nat.le_of_ble_eq_true rfl) dX5_read_6 ?_
  rintro _ w0 ⟨rfl, ⟨dg0, am0, sp0, hR0⟩, ho0⟩
  have hR00 := hR0 t n
  refine pw_stk (st' := []) rfl ?_
  refine pw_aload_n (i := 0) C dX5_read_9 rfl rfl (Or.inr ⟨_, rfl⟩) ?_
  refine pw_iconst C dX5_read_10 ?_
  refine pw_iload_n (i := 1) C dX5_read_11 rfl rfl ?_
  obtain ⟨itb, fib, awb, kb8, kb9, -⟩ := id hR00
  refine pw_callV (As := [.int (iZ 0), .int (iZ ((len : Nat) : Int))]) (st := []) C (m_X5_behindBlanks g l kb8 kb9 hfc (i := 0) (len := ((len : Nat) : Int)) (by omega) (by omega)) my_X5_behindBlanks ml_X5_51 (hR00.rec C) rfl ⟨Nat.le_of_ble_eq_true rfl, Nat.le_of_ble_eq_true rfl⟩ ⟨by (try dsimp only); omega, by (try dsimp only); omega⟩ rfl (Nat.le_of_ble_eq_true rfl) dX5_read_12 ?_
  rintro _ _ ⟨rfl, rfl⟩
  have g_501 := rBl_rng (f := f) (((len : Nat) : Int) - 0).toNat false 0
  refine pw_stk (st' := [.int (iZ (rBl f (((len : Nat) : Int) - 0).toNat false 0))]) rfl ?_
  refine pw_istore_n (i := 2) (lv' := [(0, .ref (A 8)), (1, .int (iZ ((len : Nat) : Int))), (2, .int (iZ (rBl f (((len : Nat) : Int) - 0).toNat false 0)))]) C dX5_read_15 rfl (by decide) rfl ?_
  have hb0 := rBl_rng (f := f) len false 0
  refine pw_iconst C dX5_read_16 ?_
  refine pw_istore_n (i := 3) (lv' := [(0, .ref (A 8)), (1, .int (iZ ((len : Nat) : Int))), (2, .int (iZ (rBl f (((len : Nat) : Int) - 0).toNat false 0))), (3, .int (iZ 0))]) C dX5_read_17 rfl (by decide) rfl ?_
  have hgo := loop 1002 w0 t n (rBl f len false 0) 0 none [] dg0 am0 sp0 (hS.same (fun k h1 h2 => ho0 k (by omega))) Ext.rf hR00 RdP.start (Nat.zero_le _) (by simp only [icn, qcn]; omega) (by omega) (by omega) (by omega) rfl (fun k hk => ho0 k (by omega))
  rw [show (((len : Nat) : Int) - 0).toNat = len by omega]
  exact hgo

