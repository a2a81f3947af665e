
set_option maxRecDepth 100000 in
set_option maxHeartbeats 4000000 in
/-- closeList -/
theorem m_X5_closeList (g : pw_P) (l : Launch) {w : pw_W} {A : Nat → Nat} {cap : Nat} {t : Int → Ob} {n : Int} {q : Rf} {F2 : List Rf} {ln fa pl : Int} {wd : Nat} {dg : Bool} {am sp : Int} {f : Int → Int} (hS : SB g w (A 2) cap t n) (hR : RdS g w A t n none (q :: F2) ln fa pl ((wd : Nat) : Int) dg am sp f) (hfc : ∀ j, 0 ≤ f j ∧ f j < 256) (hFl : (q :: F2).length ≤ 40) (hwd : wd ≤ 1000) (hFk : FKs F2) (hqk : q.1 = 0 ∨ q.1 = 2) (hla : q.1 ≠ 2 → q.2.2 = oNil) (hic : icn (q :: F2) < 1000) (hcap : n + (q.2.1.length : Int) + 2 * (qcn F2 : Nat) ≤ cap) : pw_M g l yX5_closeList cX5_closeList 2 none { frames := 4, cells := 0, slots := 0, locals := 95 } [.ref (A 8)] w (fun r w' => r = none ∧ ∃ (t' : Int → Ob) (n' : Int), SB g w' (A 2) cap t' n' ∧ Ext t n t' n' ∧ n' + 2 * (qcn (rDel (rLs q.2.1 q.2.2) F2).2 : Nat) ≤ n + (q.2.1.length : Int) + 2 * (qcn F2 : Nat) ∧ RdS g w' A t' n' (rDel (rLs q.2.1 q.2.2) F2).1 (rDel (rLs q.2.1 q.2.2) F2).2 ln fa pl ((wd : Nat) : Int) dg am sp f ∧ ∀ k, (k < 2 ∨ 12 < k) → w' k = w k) := by
  refine pw_M.of (by decide) (Nat.le_of_ble_eq_true rfl) rfl ?_
  intro p e s m args below meth c C hr hn
  obtain ⟨it, fi, aw, k8, k9, k10, k11, k12, ki, kf, ka, kz, kw, kv⟩ := id hR
  have hn0 := hS.n
  have hl : (q :: F2).length = F2.length + 1 := rfl
  have hfi : fi (((q :: F2).length : Nat) : Int) = ((icn F2 : Nat) : Int) := kw.2.1
  have hT : aw (((q :: F2).length : Nat) : Int) = awc q := kw.1
  have hfl2 := fls_len F2
  have hfl1 := fls_len (q :: F2)
  have hin : icn (q :: F2) = icF q + icn F2 := rfl
  have hicf : icF q = q.2.1.length + (if q.1 = 2 then 1 else 0) := rfl
  have hice : (Option.toList (none : Option Ob) ++ fls (q :: F2)).length = (fls (q :: F2)).length := by simp
  have loop : ∀ (q1 : List Ob) (w1 : pw_W) (t1 : Int → Ob) (n1 v : Int) (V : Ob), SB g w1 (A 2) cap t1 n1 → Ext t n t1 n1 → Vl t1 n1 v V → rLs q1 V = rLs q.2.1 q.2.2 → (n1 + (q1.length : Int) ≤ n + (q.2.1.length : Int) ∧ q1.length ≤ q.2.1.length) → w1 8 = (A 8, some (rdE A ln fa pl (((fls F2 ++ q1.reverse).length : Nat) : Int) (((q :: F2).length : Nat) : Int) ((wd : Nat) : Int) dg am sp)) → VlsI t1 n1 it 0 (fls F2 ++ q1.reverse) → (∀ k, (k < 2 ∨ 8 < k) → w1 k = w k) → pw_G g p l e { frames := 4, cells := 0, slots := 0, locals := 95 } s m args below meth c 2 (pw_Q g below (fun r w' => r = none ∧ ∃ (t' : Int → Ob) (n' : Int), SB g w' (A 2) cap t' n' ∧ Ext t n t' n' ∧ n' + 2 * (qcn (rDel (rLs q.2.1 q.2.2) F2).2 : Nat) ≤ n + (q.2.1.length : Int) + 2 * (qcn F2 : Nat) ∧ RdS g w' A t' n' (rDel (rLs q.2.1 q.2.2) F2).1 (rDel (rLs q.2.1 q.2.2) F2).2 ln fa pl ((wd : Nat) : Int) dg am sp f ∧ ∀ k, (k < 2 ∨ 12 < k) → w' k = w k) args s { frames := 4, cells := 0, slots := 0, locals := 95 }) 0 0 42 [(0, .ref (A 8)), (1, .int (iZ v))] [] w1 := by
    intro q1
    induction q1 with
    | nil =>
      intro w1 t1 n1 v V hS1 hext hv hq hnn k81 kv1 hf1
      have hn1 := hS1.n
      have hvr := Vl.rng hS1 hv
      have k91 := (hf1 9 (by omega)).trans k9
      have k101 := (hf1 10 (by omega)).trans k10
      have k111 := (hf1 11 (by omega)).trans k11
      have k121 := (hf1 12 (by omega)).trans k12
      have hlz : (fls F2 ++ ([] : List Ob).reverse).length = (fls F2).length := by simp
      refine pw_aload_n (i := 0) C dX5_closeList_42 rfl rfl (Or.inr ⟨_, rfl⟩) ?_
      refine pw_get (j := 6) C cl_X5 fl_X5_39 (by decide) rfl k81 rfl dX5_closeList_43 ?_
      refine pw_aload_n (i := 0) C dX5_closeList_46 rfl rfl (Or.inr ⟨_, rfl⟩) ?_
      refine pw_get (j := 7) C cl_X5 fl_X5_23 (by decide) rfl k81 rfl dX5_closeList_47 ?_
      refine pw_aload_n (i := 0) C dX5_closeList_50 rfl rfl (Or.inr ⟨_, rfl⟩) ?_
      refine pw_get (j := 9) C cl_X5 fl_X5_42 (by decide) rfl k81 rfl dX5_closeList_51 ?_
      have g_11 := kf (((q :: F2).length : Nat) : Int)
      refine pw_iald C k111 ⟨by omega, by omega, by omega⟩ dX5_closeList_54 ?_
      refine pw_icmp_le (tgt := 96) C (by omega) (by omega) dX5_closeList_55 (by decide) (fun h_12 => ?_) (fun h_12 => ?_)
      · refine pw_aload_n (i := 0) C dX5_closeList_96 rfl rfl (Or.inr ⟨_, rfl⟩) ?_
        refine pw_get (j := 9) C cl_X5 fl_X5_42 (by decide) rfl k81 rfl dX5_closeList_97 ?_
        refine pw_if_le (tgt := 113) C (by omega) dX5_closeList_100 (by decide) (fun h_13 => ?_) (fun h_13 => ?_)
        · exfalso; omega
        · refine pw_aload_n (i := 0) C dX5_closeList_103 rfl rfl (Or.inr ⟨_, rfl⟩) ?_
          refine pw_dup C dX5_closeList_104 rfl ?_
          refine pw_get (j := 9) C cl_X5 fl_X5_42 (by decide) rfl k81 rfl dX5_closeList_105 ?_
          refine pw_iconst C dX5_closeList_108 ?_
          refine pw_isub C dX5_closeList_109 ?_
          refine pw_put (j := 9) C cl_X5 fl_X5_42 (by decide) rfl rfl rfl rfl rfl k81 (Nat.le_of_ble_eq_true rfl) dX5_closeList_110 (fun w_16 k_14 o_15 => ?_)
          have k_17 : w_16 8 = ((A 8), some (OB 5 [.ref (A 2), .ref (A 9), .int (iZ ln), .int (iZ fa), .int (iZ pl), .ref (A 10), .int (iZ (((fls F2 ++ ([] : List Ob).reverse).length : Nat) : Int)), .ref (A 11), .ref (A 12), .int (iZ ((((q :: F2).length : Nat) : Int) - 1)), .int (iZ ((wd : Nat) : Int)), .int (iZ (b2i dg)), .long (lZ am), .long (lZ sp)])) := k_14
          refine pw_aload_n (i := 0) C dX5_closeList_113 rfl rfl (Or.inr ⟨_, rfl⟩) ?_
          refine pw_iload_n (i := 1) C dX5_closeList_114 rfl rfl ?_
          have S_18 := hS1.same (w' := w_16) (fun k h1 h2 => (o_15 k (by omega)))
          have c_19 := (o_15 9 (by omega)).trans k91
          have c_20 := (o_15 10 (by omega)).trans k101
          have c_21 := (o_15 11 (by omega)).trans k111
          have c_22 := (o_15 12 (by omega)).trans k121
          have hRn : RdS g w_16 A t1 n1 none F2 ln fa pl ((wd : Nat) : Int) dg am sp f := by
            refine ⟨it, fi, aw, ?_, c_19, c_20, c_21, c_22, ki, kf, ka, kz, kw.2.2, ?_⟩
            · rw [k_17, show (((q :: F2).length : Nat) : Int) - 1 = ((F2.length : Nat) : Int) by omega]; simp
            · have := kv1; simpa using this
          refine pw_callV (As := [.int (iZ v)]) (st := []) C (m_X5_finish g l S_18 hRn hfc (by omega) hwd hFk (by omega) hv (by omega)) my_X5_finish ml_X5_119 (hRn.rec C) rfl ⟨Nat.le_of_ble_eq_true rfl, Nat.le_of_ble_eq_true rfl⟩ ⟨by (try dsimp only); omega, by (try dsimp only); omega⟩ rfl (Nat.le_of_ble_eq_true rfl) dX5_closeList_115 ?_
          rintro _ w_23 ⟨rfl, tf, nf, hSf, hxf, hnf, hRf, hof⟩
          refine pw_stk (st' := []) rfl ?_
          rw [show V = rLs q.2.1 q.2.2 from hq] at hnf hRf
          exact pw_vret C hr dX5_closeList_118 ⟨rfl, tf, nf, hSf, hext.tr hxf, by simp only [List.length_nil] at hnn; omega, hRf, fun k hk => ((hof k (by omega)).trans (o_15 k (by omega))).trans (hf1 k (by omega))⟩
      · exfalso; omega
    | cons x1 q1 ih =>
      intro w1 t1 n1 v V hS1 hext hv hq hnn k81 kv1 hf1
      have hn1 := hS1.n
      have hvr := Vl.rng hS1 hv
      have k91 := (hf1 9 (by omega)).trans k9
      have k101 := (hf1 10 (by omega)).trans k10
      have k111 := (hf1 11 (by omega)).trans k11
      have k121 := (hf1 12 (by omega)).trans k12
      have hre : fls F2 ++ (x1 :: q1).reverse = fls F2 ++ (q1.reverse ++ [x1]) := by simp
      have hlz : (fls F2 ++ (x1 :: q1).reverse).length = (fls F2 ++ q1.reverse).length + 1 := by simp; omega
      have hly : (fls F2 ++ (x1 :: q1).reverse).length = (fls F2).length + (x1 :: q1).length := by simp
      have hlx : (x1 :: q1).length = q1.length + 1 := rfl
      refine pw_aload_n (i := 0) C dX5_closeList_42 rfl rfl (Or.inr ⟨_, rfl⟩) ?_
      refine pw_get (j := 6) C cl_X5 fl_X5_39 (by decide) rfl k81 rfl dX5_closeList_43 ?_
      refine pw_aload_n (i := 0) C dX5_closeList_46 rfl rfl (Or.inr ⟨_, rfl⟩) ?_
      refine pw_get (j := 7) C cl_X5 fl_X5_23 (by decide) rfl k81 rfl dX5_closeList_47 ?_
      refine pw_aload_n (i := 0) C dX5_closeList_50 rfl rfl (Or.inr ⟨_, rfl⟩) ?_
      refine pw_get (j := 9) C cl_X5 fl_X5_42 (by decide) rfl k81 rfl dX5_closeList_51 ?_
      have g_51 := kf (((q :: F2).length : Nat) : Int)
      refine pw_iald C k111 ⟨by omega, by omega, by omega⟩ dX5_closeList_54 ?_
      refine pw_icmp_le (tgt := 96) C (by omega) (by omega) dX5_closeList_55 (by decide) (fun h_52 => ?_) (fun h_52 => ?_)
      · exfalso; omega
      · refine pw_aload_n (i := 0) C dX5_closeList_58 rfl rfl (Or.inr ⟨_, rfl⟩) ?_
        refine pw_get (j := 6) C cl_X5 fl_X5_39 (by decide) rfl k81 rfl dX5_closeList_59 ?_
        refine pw_if_le (tgt := 96) C (by omega) dX5_closeList_62 (by decide) (fun h_53 => ?_) (fun h_53 => ?_)
        · exfalso; omega
        · refine pw_aload_n (i := 0) C dX5_closeList_65 rfl rfl (Or.inr ⟨_, rfl⟩) ?_
          refine pw_dup C dX5_closeList_66 rfl ?_
          refine pw_get (j := 6) C cl_X5 fl_X5_39 (by decide) rfl k81 rfl dX5_closeList_67 ?_
          refine pw_iconst C dX5_closeList_70 ?_
          refine pw_isub C dX5_closeList_71 ?_
          refine pw_put (j := 6) C cl_X5 fl_X5_39 (by decide) rfl rfl rfl rfl rfl k81 (Nat.le_of_ble_eq_true rfl) dX5_closeList_72 (fun w_56 k_54 o_55 => ?_)
          have k_57 : w_56 8 = ((A 8), some (OB 5 [.ref (A 2), .ref (A 9), .int (iZ ln), .int (iZ fa), .int (iZ pl), .ref (A 10), .int (iZ ((((fls F2 ++ (x1 :: q1).reverse).length : Nat) : Int) - 1)), .ref (A 11), .ref (A 12), .int (iZ (((q :: F2).length : Nat) : Int)), .int (iZ ((wd : Nat) : Int)), .int (iZ (b2i dg)), .long (lZ am), .long (lZ sp)])) := k_54
          have S_58 := hS1.same (w' := w_56) (fun k h1 h2 => (o_55 k (by omega)))
          refine pw_aload_n (i := 0) C dX5_closeList_75 rfl rfl (Or.inr ⟨_, rfl⟩) ?_
          refine pw_get (j := 0) C cl_X5 fl_X5_29 (by decide) rfl k_57 rfl dX5_closeList_76 ?_
          refine pw_aload_n (i := 0) C dX5_closeList_79 rfl rfl (Or.inr ⟨_, rfl⟩) ?_
          refine pw_get (j := 5) C cl_X5 fl_X5_19 (by decide) rfl k_57 rfl dX5_closeList_80 ?_
          refine pw_aload_n (i := 0) C dX5_closeList_83 rfl rfl (Or.inr ⟨_, rfl⟩) ?_
          refine pw_get (j := 6) C cl_X5 fl_X5_39 (by decide) rfl k_57 rfl dX5_closeList_84 ?_
          have c_59 := (o_55 10 (by omega)).trans k101
          refine pw_iald C c_59 ⟨by omega, by omega, by omega⟩ dX5_closeList_87 ?_
          have hit : Vl t1 n1 (it ((((fls F2 ++ (x1 :: q1).reverse).length : Nat) : Int) - 1)) x1 := by have := VlsI.mem (fls F2 ++ q1.reverse).length kv1 (X := x1) (by rw [hre, ← List.append_assoc]; simp); rw [Int.zero_add, show (((fls F2 ++ q1.reverse).length : Nat) : Int) = ((((fls F2 ++ (x1 :: q1).reverse).length : Nat) : Int) - 1) by omega] at this; exact this
          have hitr := Vl.rng hS1 hit
          refine pw_iload_n (i := 1) C dX5_closeList_88 rfl rfl ?_
          refine pw_callV (As := [.int (iZ (it ((((fls F2 ++ (x1 :: q1).reverse).length : Nat) : Int) - 1))), .int (iZ v)]) (st := []) C (vr_pair S_58 (by omega) hit hv) my_X6_pair ml_X5_122 (S_58.rec C) rfl ⟨Nat.le_of_ble_eq_true rfl, Nat.le_of_ble_eq_true rfl⟩ ⟨by (try dsimp only); omega, by (try dsimp only); omega⟩ rfl (Nat.le_of_ble_eq_true rfl) dX5_closeList_89 ?_
          rintro _ w_67 ⟨z_60, t_61, n_62, rfl, S_63, x_64, hn_65, z_60v, o_66⟩
          have x_641 := x_64.1
          have v_68 := Vl.ext hv x_64
          have v_69 := Vl.ext hit x_64
          have z_60r := Vl.rng S_63 z_60v
          refine pw_stk (st' := [.int (iZ z_60)]) rfl ?_
          refine pw_istore_n (i := 1) (lv' := [(0, .ref (A 8)), (1, .int (iZ z_60))]) C dX5_closeList_92 rfl (by decide) rfl ?_
          refine pw_goto (tgt := 42) C dX5_closeList_93 (by decide) ?_
          have c_70 := (o_66 8 (by omega)).trans k_57
          have c_71 := ((o_66 9 (by omega)).trans (o_55 9 (by omega))).trans k91
          have c_72 := (o_66 10 (by omega)).trans c_59
          have c_73 := ((o_66 11 (by omega)).trans (o_55 11 (by omega))).trans k111
          have c_74 := ((o_66 12 (by omega)).trans (o_55 12 (by omega))).trans k121
          refine ih w_67 t_61 n_62 z_60 _ S_63 (hext.tr x_64) z_60v (by rw [← hq]; rfl) (by simp only [List.length_cons] at hnn; omega) ?_ (by have := kv1.ext x_64; rw [hre, ← List.append_assoc] at this; exact this.left) (fun k hk => ((o_66 k (by omega)).trans (o_55 k (by omega))).trans (hf1 k (by omega)))
          rw [c_70, show (((fls F2 ++ q1.reverse).length : Nat) : Int) = (((fls F2 ++ (x1 :: q1).reverse).length : Nat) : Int) - 1 by omega]
  by_cases e2 : q.1 = 2
  · have hfe : fls (q :: F2) = fls F2 ++ (q.2.1.reverse ++ [q.2.2]) := by simp [fls, e2]
    rw [show awc q = 5 by simp [awc, e2]] at hT
    rw [if_pos e2] at hicf
    refine pw_iconst C dX5_closeList_0 ?_
    refine pw_istore_n (i := 1) (lv' := [(0, .ref (A 8)), (1, .int (iZ 0))]) C dX5_closeList_1 rfl (by decide) rfl ?_
    refine pw_aload_n (i := 0) C dX5_closeList_2 rfl rfl (Or.inr ⟨_, rfl⟩) ?_
    refine pw_get (j := 8) C cl_X5 fl_X5_26 (by decide) rfl k8 rfl dX5_closeList_3 ?_
    refine pw_aload_n (i := 0) C dX5_closeList_6 rfl rfl (Or.inr ⟨_, rfl⟩) ?_
    refine pw_get (j := 9) C cl_X5 fl_X5_42 (by decide) rfl k8 rfl dX5_closeList_7 ?_
    have g_301 := ka (((q :: F2).length : Nat) : Int)
    refine pw_iald C k12 ⟨by omega, by omega, by omega⟩ dX5_closeList_10 ?_
    refine pw_iconst C dX5_closeList_11 ?_
    refine pw_icmp_ne (tgt := 42) C (by omega) (by omega) dX5_closeList_12 (by decide) (fun h_302 => ?_) (fun h_302 => ?_)
    · exfalso; omega
    · refine pw_aload_n (i := 0) C dX5_closeList_15 rfl rfl (Or.inr ⟨_, rfl⟩) ?_
      refine pw_get (j := 6) C cl_X5 fl_X5_39 (by decide) rfl k8 rfl dX5_closeList_16 ?_
      refine pw_if_le (tgt := 42) C (by omega) dX5_closeList_19 (by decide) (fun h_303 => ?_) (fun h_303 => ?_)
      · exfalso; omega
      · refine pw_aload_n (i := 0) C dX5_closeList_22 rfl rfl (Or.inr ⟨_, rfl⟩) ?_
        refine pw_dup C dX5_closeList_23 rfl ?_
        refine pw_get (j := 6) C cl_X5 fl_X5_39 (by decide) rfl k8 rfl dX5_closeList_24 ?_
        refine pw_iconst C dX5_closeList_27 ?_
        refine pw_isub C dX5_closeList_28 ?_
        refine pw_put (j := 6) C cl_X5 fl_X5_39 (by decide) rfl rfl rfl rfl rfl k8 (Nat.le_of_ble_eq_true rfl) dX5_closeList_29 (fun w_306 k_304 o_305 => ?_)
        have k_307 : w_306 8 = ((A 8), some (OB 5 [.ref (A 2), .ref (A 9), .int (iZ ln), .int (iZ fa), .int (iZ pl), .ref (A 10), .int (iZ ((((Option.toList (none : Option Ob) ++ fls (q :: F2)).length : Nat) : Int) - 1)), .ref (A 11), .ref (A 12), .int (iZ (((q :: F2).length : Nat) : Int)), .int (iZ ((wd : Nat) : Int)), .int (iZ (b2i dg)), .long (lZ am), .long (lZ sp)])) := k_304
        refine pw_aload_n (i := 0) C dX5_closeList_32 rfl rfl (Or.inr ⟨_, rfl⟩) ?_
        refine pw_get (j := 5) C cl_X5 fl_X5_19 (by decide) rfl k_307 rfl dX5_closeList_33 ?_
        refine pw_aload_n (i := 0) C dX5_closeList_36 rfl rfl (Or.inr ⟨_, rfl⟩) ?_
        refine pw_get (j := 6) C cl_X5 fl_X5_39 (by decide) rfl k_307 rfl dX5_closeList_37 ?_
        have c_308 := (o_305 10 (by omega)).trans k10
        refine pw_iald C c_308 ⟨by omega, by omega, by omega⟩ dX5_closeList_40 ?_
        have hla : Vl t n (it ((((Option.toList (none : Option Ob) ++ fls (q :: F2)).length : Nat) : Int) - 1)) q.2.2 := by have := VlsI.mem (fls F2 ++ q.2.1.reverse).length kv (X := q.2.2) (by rw [Option.toList_none, List.nil_append, hfe, ← List.append_assoc]; simp); rw [Int.zero_add, show (((fls F2 ++ q.2.1.reverse).length : Nat) : Int) = ((((Option.toList (none : Option Ob) ++ fls (q :: F2)).length : Nat) : Int) - 1) by rw [hfe]; simp; omega] at this; exact this
        refine pw_istore_n (i := 1) (lv' := [(0, .ref (A 8)), (1, .int (iZ (it ((((Option.toList (none : Option Ob) ++ fls (q :: F2)).length : Nat) : Int) - 1))))]) C dX5_closeList_41 rfl (by decide) rfl ?_
        exact loop q.2.1 w_306 t n (it ((((Option.toList (none : Option Ob) ++ fls (q :: F2)).length : Nat) : Int) - 1)) _ (hS.same (fun k h1 h2 => (o_305 k (by omega)))) Ext.rf hla rfl (by omega) (by rw [k_307, show (((fls F2 ++ q.2.1.reverse).length : Nat) : Int) = (((Option.toList (none : Option Ob) ++ fls (q :: F2)).length : Nat) : Int) - 1 by rw [hfe]; simp; omega]) (by have := kv; rw [Option.toList_none, List.nil_append, hfe, ← List.append_assoc] at this; exact this.left) (fun k hk => (o_305 k (by omega)))
  · have e0 : q.1 = 0 := by omega
    have hfe : fls (q :: F2) = fls F2 ++ (q.2.1.reverse ++ []) := by simp [fls, e0]
    have hnl : q.2.2 = oNil := hla e2
    have hT2 : awc q ≠ 5 := by simp only [awc, e0, if_true]; split <;> decide
    rw [if_neg e2] at hicf
    refine pw_iconst C dX5_closeList_0 ?_
    refine pw_istore_n (i := 1) (lv' := [(0, .ref (A 8)), (1, .int (iZ 0))]) C dX5_closeList_1 rfl (by decide) rfl ?_
    refine pw_aload_n (i := 0) C dX5_closeList_2 rfl rfl (Or.inr ⟨_, rfl⟩) ?_
    refine pw_get (j := 8) C cl_X5 fl_X5_26 (by decide) rfl k8 rfl dX5_closeList_3 ?_
    refine pw_aload_n (i := 0) C dX5_closeList_6 rfl rfl (Or.inr ⟨_, rfl⟩) ?_
    refine pw_get (j := 9) C cl_X5 fl_X5_42 (by decide) rfl k8 rfl dX5_closeList_7 ?_
    have g_401 := ka (((q :: F2).length : Nat) : Int)
    refine pw_iald C k12 ⟨by omega, by omega, by omega⟩ dX5_closeList_10 ?_
    refine pw_iconst C dX5_closeList_11 ?_
    refine pw_icmp_ne (tgt := 42) C (by omega) (by omega) dX5_closeList_12 (by decide) (fun h_402 => ?_) (fun h_402 => ?_)
    · exact loop q.2.1 w t n 0 _ hS Ext.rf (by rw [hnl]; exact Vl.nil hS) rfl (by omega) (by rw [k8, hfe]; simp) (by have := kv; rw [Option.toList_none, List.nil_append, hfe, List.append_nil] at this; exact this) (fun _ _ => rfl)
    · exfalso; omega


