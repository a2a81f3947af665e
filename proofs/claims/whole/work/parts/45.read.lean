theorem rDel_c {V : Ob} {q : Rf} {F2 : List Rf} (h3 : q.1 ≠ 3) (h2 : q.1 ≠ 2) : ∃ q' : Rf, rDel V (q :: F2) = (none, q' :: F2) ∧ fls (q' :: F2) = fls (q :: F2) ++ [V] ∧ awc q' = (if q.1 = 1 then 5 else 3) ∧ qcn (q' :: F2) = qcn F2 := by
  by_cases h1 : q.1 = 1
  · refine ⟨(2, q.2.1, V), ?_, ?_, ?_, ?_⟩
    · rw [rDel, if_neg h3, if_pos h1]
    · simp [fls, h1]
    · rw [if_pos h1]; rfl
    · simp [qcn]
  · refine ⟨(0, V :: q.2.1, oNil), ?_, ?_, ?_, ?_⟩
    · rw [rDel, if_neg h3, if_neg h1]
    · simp [fls, h2]
    · rw [if_neg h1]; rfl
    · simp [qcn]
theorem rDel_icn : ∀ (F : List Rf) (v : Ob), (∀ f ∈ F, f.1 ≠ 2) → icn (rDel v F).2 ≤ icn F + 1
  | [], _, _ => Nat.zero_le _
  | f :: F, v, h => by
    have h2 := h f List.mem_cons_self
    have ih := fun u => rDel_icn F u (fun q hq => h q (List.mem_cons_of_mem _ hq))
    rw [rDel]
    split
    · have := ih (.add oQuote (.add v oNil)); simp only [icn]; omega
    · split
      · simp only [icn, icF, if_true]; rw [if_neg h2]; omega
      · simp only [icn, icF, List.length_cons]; rw [if_neg h2, if_neg (by decide)]; omega
def FKs (F : List Rf) : Prop := ∀ q ∈ F, q.1 ≤ 3 ∧ q.1 ≠ 2 ∧ (q.1 = 3 → q.2.1 = [])
theorem awc3 {q : Rf} (h : q.1 = 3) : awc q = 6 := by simp [awc, h]
theorem awc1 {q : Rf} (h : q.1 = 1) : awc q = 4 := by simp [awc, h]
theorem awc0 {q : Rf} (h3 : q.1 ≠ 3) (h1 : q.1 ≠ 1) (h2 : q.1 ≠ 2) (hl : q.1 ≤ 3) : 2 ≤ awc q ∧ awc q ≤ 3 := by
  have : q.1 = 0 := by omega
  simp only [awc, this, if_true]
  split <;> omega
set_option maxRecDepth 100000 in
set_option maxHeartbeats 4000000 in
/-- finish -/
theorem m_X5_finish (g : pw_P) (l : Launch) {w : pw_W} {A : Nat → Nat} {cap : Nat} {t : Int → Ob} {n : Int} {F : List Rf} {ln fa pl : Int} {wd : Nat} {dg : Bool} {am sp : Int} {f : Int → Int} (hS : SB g w (A 2) cap t n) (hR : RdS g w A t n none F ln fa pl ((wd : Nat) : Int) dg am sp f) (hfc : ∀ j, 0 ≤ f j ∧ f j < 256) (hFl : F.length ≤ 40) (hwd : wd ≤ 1000) (hFk : FKs F) (hic : icn F < 1000) {x : Int} {X : Ob} (hx : Vl t n x X) (hcap : n + 2 * (qcn F : Nat) ≤ cap) : pw_M g l yX5_finish cX5_finish 3 none { frames := 3, cells := 0, slots := 0, locals := 73 } [.ref (A 8), .int (iZ x)] w (fun r w' => r = none ∧ ∃ (t' : Int → Ob) (n' : Int), SB g w' (A 2) cap t' n' ∧ Ext t n t' n' ∧ n' + 2 * (qcn (rDel X F).2 : Nat) ≤ n + 2 * (qcn F : Nat) ∧ RdS g w' A t' n' (rDel X F).1 (rDel X F).2 ln fa pl ((wd : Nat) : Int) dg am sp f ∧ ∀ k, (k < 2 ∨ 12 < k) → w' k = w k) := by
  refine pw_M.of (by decide) (Nat.le_of_ble_eq_true rfl) rfl ?_
  intro p e s m args below meth c C hr hn
  have hn0 := hS.n
  have hxr := Vl.rng hS hx
  have loop : ∀ (F1 : List Rf) (w1 : pw_W) (t1 : Int → Ob) (n1 v : Int) (V : Ob), SB g w1 (A 2) cap t1 n1 → Ext t n t1 n1 → RdS g w1 A t1 n1 none F1 ln fa pl ((wd : Nat) : Int) dg am sp f → Vl t1 n1 v V → rDel V F1 = rDel X F → n1 + 2 * (qcn F1 : Nat) ≤ n + 2 * (qcn F : Nat) → F1.length ≤ 40 → FKs F1 → icn F1 < 1000 → (∀ k, (k < 2 ∨ 12 < k) → w1 k = w k) → pw_G g p l e { frames := 3, cells := 0, slots := 0, locals := 73 } s m args below meth c 3 (pw_Q g below (fun r w' => r = none ∧ ∃ (t' : Int → Ob) (n' : Int), SB g w' (A 2) cap t' n' ∧ Ext t n t' n' ∧ n' + 2 * (qcn (rDel X F).2 : Nat) ≤ n + 2 * (qcn F : Nat) ∧ RdS g w' A t' n' (rDel X F).1 (rDel X F).2 ln fa pl ((wd : Nat) : Int) dg am sp f ∧ ∀ k, (k < 2 ∨ 12 < k) → w' k = w k) args s { frames := 3, cells := 0, slots := 0, locals := 73 }) 0 0 2 [(0, .ref (A 8)), (1, .int (iZ x)), (2, .int (iZ v))] [] w1 := by
    intro F1
    induction F1 with
    | nil =>
      intro w1 t1 n1 v V hS1 hext hR1 hv hq hnn hl40 hFk hic hf1
      obtain ⟨it, fi, aw, k8, k9, k10, k11, k12, ki, kf, ka, kz, kw, kv⟩ := id hR1
      have hn1 := hS1.n
      have hvr := Vl.rng hS1 hv
      have k8 : w1 8 = (A 8, some (rdE A ln fa pl 0 0 ((wd : Nat) : Int) dg am sp)) := k8
      have hz0 : aw 0 = 0 := kz
      refine pw_aload_n (i := 0) C dX5_finish_2 rfl rfl (Or.inr ⟨_, rfl⟩) ?_
      refine pw_get (j := 9) C cl_X5 fl_X5_42 (by decide) rfl k8 rfl dX5_finish_3 ?_
      refine pw_if_le (tgt := 54) C (by omega) dX5_finish_6 (by decide) (fun h_11 => ?_) (fun h_11 => ?_)
      · refine pw_aload_n (i := 0) C dX5_finish_54 rfl rfl (Or.inr ⟨_, rfl⟩) ?_
        refine pw_get (j := 6) C cl_X5 fl_X5_39 (by decide) rfl k8 rfl dX5_finish_55 ?_
        refine pw_sipush C dX5_finish_58 (by decide) ?_
        refine pw_icmp_ge (tgt := 84) C (by omega) (by omega) dX5_finish_61 (by decide) (fun h_12 => ?_) (fun h_12 => ?_)
        · exfalso; omega
        · refine pw_aload_n (i := 0) C dX5_finish_64 rfl rfl (Or.inr ⟨_, rfl⟩) ?_
          refine pw_get (j := 5) C cl_X5 fl_X5_19 (by decide) rfl k8 rfl dX5_finish_65 ?_
          refine pw_aload_n (i := 0) C dX5_finish_68 rfl rfl (Or.inr ⟨_, rfl⟩) ?_
          refine pw_get (j := 6) C cl_X5 fl_X5_39 (by decide) rfl k8 rfl dX5_finish_69 ?_
          refine pw_iload_n (i := 2) C dX5_finish_72 rfl rfl ?_
          refine pw_iast C k10 ⟨by omega, by omega, by omega⟩ dX5_finish_73 (fun w_15 k_13 o_14 => ?_)
          refine pw_aload_n (i := 0) C dX5_finish_74 rfl rfl (Or.inr ⟨_, rfl⟩) ?_
          refine pw_dup C dX5_finish_75 rfl ?_
          have c_16 := (o_14 8 (by omega)).trans k8
          refine pw_get (j := 6) C cl_X5 fl_X5_39 (by decide) rfl c_16 rfl dX5_finish_76 ?_
          refine pw_iconst C dX5_finish_79 ?_
          refine pw_iadd C dX5_finish_80 ?_
          refine pw_put (j := 6) C cl_X5 fl_X5_39 (by decide) rfl rfl rfl rfl rfl c_16 (Nat.le_of_ble_eq_true rfl) dX5_finish_81 (fun w_19 k_17 o_18 => ?_)
          have k_20 : w_19 8 = ((A 8), some (OB 5 [.ref (A 2), .ref (A 9), .int (iZ ln), .int (iZ fa), .int (iZ pl), .ref (A 10), .int (iZ (0 + 1)), .ref (A 11), .ref (A 12), .int (iZ 0), .int (iZ ((wd : Nat) : Int)), .int (iZ (b2i dg)), .long (lZ am), .long (lZ sp)])) := k_17
          refine pw_aload_n (i := 0) C dX5_finish_84 rfl rfl (Or.inr ⟨_, rfl⟩) ?_
          refine pw_get (j := 8) C cl_X5 fl_X5_26 (by decide) rfl k_20 rfl dX5_finish_85 ?_
          refine pw_aload_n (i := 0) C dX5_finish_88 rfl rfl (Or.inr ⟨_, rfl⟩) ?_
          refine pw_get (j := 9) C cl_X5 fl_X5_42 (by decide) rfl k_20 rfl dX5_finish_89 ?_
          have c_21 := ((o_18 12 (by omega)).trans (o_14 12 (by omega))).trans k12
          have g_22 := ka 0
          refine pw_iald C c_21 ⟨by omega, by omega, by omega⟩ dX5_finish_92 ?_
          refine pw_if_ne (tgt := 109) C (by omega) dX5_finish_93 (by decide) (fun h_23 => ?_) (fun h_23 => ?_)
          · exfalso; omega
          · refine pw_aload_n (i := 0) C dX5_finish_96 rfl rfl (Or.inr ⟨_, rfl⟩) ?_
            refine pw_get (j := 8) C cl_X5 fl_X5_26 (by decide) rfl k_20 rfl dX5_finish_97 ?_
            refine pw_aload_n (i := 0) C dX5_finish_100 rfl rfl (Or.inr ⟨_, rfl⟩) ?_
            refine pw_get (j := 9) C cl_X5 fl_X5_42 (by decide) rfl k_20 rfl dX5_finish_101 ?_
            refine pw_iconst C dX5_finish_104 ?_
            refine pw_iast C c_21 ⟨by omega, by omega, by omega⟩ dX5_finish_105 (fun w_26 k_24 o_25 => ?_)
            refine pw_goto (tgt := 136) C dX5_finish_106 (by decide) ?_
            have c_27 := (o_25 8 (by omega)).trans k_20
            have c_28 := ((o_25 9 (by omega)).trans ((o_18 9 (by omega)).trans (o_14 9 (by omega)))).trans k9
            have c_29 := ((o_25 10 (by omega)).trans (o_18 10 (by omega))).trans k_13
            have c_30 := ((o_25 11 (by omega)).trans ((o_18 11 (by omega)).trans (o_14 11 (by omega)))).trans k11
            have S_31 := hS1.same (w' := w_26) (fun k h1 h2 => (o_25 k (by omega)).trans ((o_18 k (by omega)).trans (o_14 k (by omega))))
            refine pw_vret C hr dX5_finish_136 ⟨rfl, t1, n1, S_31, hext, ?_, ?_, fun k hk => ((o_25 k (by omega)).trans ((o_18 k (by omega)).trans (o_14 k (by omega)))).trans (hf1 k hk)⟩
            · rw [← hq]; simp only [rDel, qcn] at hnn ⊢; omega
            · rw [← hq]
              exact ⟨_, _, _, c_27, c_28, c_29, c_30, k_24, upz_inI ki (by omega), kf, upz_inI ka (by decide), rfl, trivial, ⟨by rw [upz_self]; exact hv, trivial⟩⟩
      · exfalso; omega
    | cons q F2 ih =>
      intro w1 t1 n1 v V hS1 hext hR1 hv hq hnn hl40 hFk hic hf1
      obtain ⟨it, fi, aw, k8, k9, k10, k11, k12, ki, kf, ka, kz, kw, kv⟩ := id hR1
      have hn1 := hS1.n
      have hvr := Vl.rng hS1 hv
      have hl : (q :: F2).length = F2.length + 1 := rfl
      have hT : aw (((q :: F2).length : Nat) : Int) = awc q := kw.1
      have hFq := hFk q List.mem_cons_self
      have hin : icn (q :: F2) = icF q + icn F2 := rfl
      have hlen := fls_len (q :: F2)
      have hlen2 : (Option.toList (none : Option Ob) ++ fls (q :: F2)).length = (fls (q :: F2)).length := by simp
      by_cases e3 : q.1 = 3
      · have hfe : fls (q :: F2) = fls F2 := by simp [fls, e3, hFq.2.2 e3]
        rw [awc3 e3] at hT
        have hqc : qcn (q :: F2) = 1 + qcn F2 := by simp [qcn, e3]
        refine pw_aload_n (i := 0) C dX5_finish_2 rfl rfl (Or.inr ⟨_, rfl⟩) ?_
        refine pw_get (j := 9) C cl_X5 fl_X5_42 (by decide) rfl k8 rfl dX5_finish_3 ?_
        refine pw_if_le (tgt := 54) C (by omega) dX5_finish_6 (by decide) (fun h_101 => ?_) (fun h_101 => ?_)
        · exfalso; omega
        · refine pw_aload_n (i := 0) C dX5_finish_9 rfl rfl (Or.inr ⟨_, rfl⟩) ?_
          refine pw_get (j := 8) C cl_X5 fl_X5_26 (by decide) rfl k8 rfl dX5_finish_10 ?_
          refine pw_aload_n (i := 0) C dX5_finish_13 rfl rfl (Or.inr ⟨_, rfl⟩) ?_
          refine pw_get (j := 9) C cl_X5 fl_X5_42 (by decide) rfl k8 rfl dX5_finish_14 ?_
          have g_102 := ka (((q :: F2).length : Nat) : Int)
          refine pw_iald C k12 ⟨by omega, by omega, by omega⟩ dX5_finish_17 ?_
          refine pw_bipush C dX5_finish_18 (by decide) ?_
          refine pw_icmp_ne (tgt := 54) C (by omega) (by omega) dX5_finish_20 (by decide) (fun h_103 => ?_) (fun h_103 => ?_)
          · exfalso; omega
          · refine pw_aload_n (i := 0) C dX5_finish_23 rfl rfl (Or.inr ⟨_, rfl⟩) ?_
            refine pw_dup C dX5_finish_24 rfl ?_
            refine pw_get (j := 9) C cl_X5 fl_X5_42 (by decide) rfl k8 rfl dX5_finish_25 ?_
            refine pw_iconst C dX5_finish_28 ?_
            refine pw_isub C dX5_finish_29 ?_
            refine pw_put (j := 9) C cl_X5 fl_X5_42 (by decide) rfl rfl rfl rfl rfl k8 (Nat.le_of_ble_eq_true rfl) dX5_finish_30 (fun w_106 k_104 o_105 => ?_)
            have k_107 : w_106 8 = ((A 8), some (OB 5 [.ref (A 2), .ref (A 9), .int (iZ ln), .int (iZ fa), .int (iZ pl), .ref (A 10), .int (iZ (((Option.toList (none : Option Ob) ++ fls (q :: F2)).length : Nat) : Int)), .ref (A 11), .ref (A 12), .int (iZ ((((q :: F2).length : Nat) : Int) - 1)), .int (iZ ((wd : Nat) : Int)), .int (iZ (b2i dg)), .long (lZ am), .long (lZ sp)])) := k_104
            have S_108 := hS1.same (w' := w_106) (fun k h1 h2 => (o_105 k (by omega)))
            refine pw_aload_n (i := 0) C dX5_finish_33 rfl rfl (Or.inr ⟨_, rfl⟩) ?_
            refine pw_get (j := 0) C cl_X5 fl_X5_29 (by decide) rfl k_107 rfl dX5_finish_34 ?_
            refine pw_iconst C dX5_finish_37 ?_
            refine pw_aload_n (i := 0) C dX5_finish_38 rfl rfl (Or.inr ⟨_, rfl⟩) ?_
            refine pw_get (j := 0) C cl_X5 fl_X5_29 (by decide) rfl k_107 rfl dX5_finish_39 ?_
            refine pw_iload_n (i := 2) C dX5_finish_42 rfl rfl ?_
            refine pw_iconst C dX5_finish_43 ?_
            refine pw_callV (As := [.int (iZ v), .int (iZ 0)]) (st := [.int (iZ 2), .ref (A 2)]) C (vr_pair S_108 (by omega) hv (Vl.k S_108 0 (by decide))) my_X6_pair ml_X5_122 (S_108.rec C) rfl ⟨Nat.le_of_ble_eq_true rfl, Nat.le_of_ble_eq_true rfl⟩ ⟨by (try dsimp only); omega, by (try dsimp only); omega⟩ rfl (Nat.le_of_ble_eq_true rfl) dX5_finish_44 ?_
            rintro _ w_116 ⟨z_109, t_110, n_111, rfl, S_112, x_113, hn_114, z_109v, o_115⟩
            have x_1131 := x_113.1
            have v_117 := Vl.ext hv x_113
            have z_109r := Vl.rng S_112 z_109v
            refine pw_stk (st' := [.int (iZ z_109), .int (iZ 2), .ref (A 2)]) rfl ?_
            refine pw_callV (As := [.int (iZ 2), .int (iZ z_109)]) (st := []) C (vr_pair S_112 (by omega) (Vl.k S_112 2 (by decide)) z_109v) my_X6_pair ml_X5_122 (S_112.rec C) rfl ⟨Nat.le_of_ble_eq_true rfl, Nat.le_of_ble_eq_true rfl⟩ ⟨by (try dsimp only); omega, by (try dsimp only); omega⟩ rfl (Nat.le_of_ble_eq_true rfl) dX5_finish_47 ?_
            rintro _ w_125 ⟨z_118, t_119, n_120, rfl, S_121, x_122, hn_123, z_118v, o_124⟩
            have x_1221 := x_122.1
            have v_126 := Vl.ext v_117 x_122
            have v_127 := Vl.ext z_109v x_122
            have z_118r := Vl.rng S_121 z_118v
            refine pw_stk (st' := [.int (iZ z_118)]) rfl ?_
            refine pw_istore_n (i := 2) (lv' := [(0, .ref (A 8)), (1, .int (iZ x)), (2, .int (iZ z_118))]) C dX5_finish_50 rfl (by decide) rfl ?_
            refine pw_goto (tgt := 2) C dX5_finish_51 (by decide) ?_
            have c_128 := ((o_124 8 (by omega)).trans (o_115 8 (by omega))).trans k_107
            have c_129 := ((o_124 9 (by omega)).trans ((o_115 9 (by omega)).trans (o_105 9 (by omega)))).trans k9
            have c_130 := ((o_124 10 (by omega)).trans ((o_115 10 (by omega)).trans (o_105 10 (by omega)))).trans k10
            have c_131 := ((o_124 11 (by omega)).trans ((o_115 11 (by omega)).trans (o_105 11 (by omega)))).trans k11
            have c_132 := ((o_124 12 (by omega)).trans ((o_115 12 (by omega)).trans (o_105 12 (by omega)))).trans k12
            have hxx := x_113.tr x_122
            refine ih w_125 t_119 n_120 z_118 _ S_121 (hext.tr hxx) ⟨it, fi, aw, ?_, c_129, c_130, c_131, c_132, ki, kf, ka, kz, kw.2.2, ?_⟩ z_118v ?_ (by omega) (by omega) (fun y hy => hFk y (List.mem_cons_of_mem _ hy)) (by omega) (fun k hk => ((o_124 k (by omega)).trans ((o_115 k (by omega)).trans (o_105 k (by omega)))).trans (hf1 k hk))
            · rw [c_128, hfe, show (((q :: F2).length : Nat) : Int) - 1 = ((F2.length : Nat) : Int) by omega]
            · have := kv.ext hxx; rw [hfe] at this; exact this
            · rw [← hq]; show _ = rDel V (q :: F2); rw [rDel, if_pos e3]; rfl
      · obtain ⟨q', d1, d2, d3, d4⟩ := rDel_c (V := V) (F2 := F2) e3 hFq.2.1
        have hqc : qcn (q :: F2) = qcn F2 := by simp [qcn, e3]
        by_cases e1 : q.1 = 1
        · rw [awc1 e1] at hT
          refine pw_aload_n (i := 0) C dX5_finish_2 rfl rfl (Or.inr ⟨_, rfl⟩) ?_
          refine pw_get (j := 9) C cl_X5 fl_X5_42 (by decide) rfl k8 rfl dX5_finish_3 ?_
          refine pw_if_le (tgt := 54) C (by omega) dX5_finish_6 (by decide) (fun h_201 => ?_) (fun h_201 => ?_)
          · exfalso; omega
          · refine pw_aload_n (i := 0) C dX5_finish_9 rfl rfl (Or.inr ⟨_, rfl⟩) ?_
            refine pw_get (j := 8) C cl_X5 fl_X5_26 (by decide) rfl k8 rfl dX5_finish_10 ?_
            refine pw_aload_n (i := 0) C dX5_finish_13 rfl rfl (Or.inr ⟨_, rfl⟩) ?_
            refine pw_get (j := 9) C cl_X5 fl_X5_42 (by decide) rfl k8 rfl dX5_finish_14 ?_
            have g_202 := ka (((q :: F2).length : Nat) : Int)
            refine pw_iald C k12 ⟨by omega, by omega, by omega⟩ dX5_finish_17 ?_
            refine pw_bipush C dX5_finish_18 (by decide) ?_
            refine pw_icmp_ne (tgt := 54) C (by omega) (by omega) dX5_finish_20 (by decide) (fun h_203 => ?_) (fun h_203 => ?_)
            · refine pw_aload_n (i := 0) C dX5_finish_54 rfl rfl (Or.inr ⟨_, rfl⟩) ?_
              refine pw_get (j := 6) C cl_X5 fl_X5_39 (by decide) rfl k8 rfl dX5_finish_55 ?_
              refine pw_sipush C dX5_finish_58 (by decide) ?_
              refine pw_icmp_ge (tgt := 84) C (by omega) (by omega) dX5_finish_61 (by decide) (fun h_204 => ?_) (fun h_204 => ?_)
              · exfalso; omega
              · refine pw_aload_n (i := 0) C dX5_finish_64 rfl rfl (Or.inr ⟨_, rfl⟩) ?_
                refine pw_get (j := 5) C cl_X5 fl_X5_19 (by decide) rfl k8 rfl dX5_finish_65 ?_
                refine pw_aload_n (i := 0) C dX5_finish_68 rfl rfl (Or.inr ⟨_, rfl⟩) ?_
                refine pw_get (j := 6) C cl_X5 fl_X5_39 (by decide) rfl k8 rfl dX5_finish_69 ?_
                refine pw_iload_n (i := 2) C dX5_finish_72 rfl rfl ?_
                refine pw_iast C k10 ⟨by omega, by omega, by omega⟩ dX5_finish_73 (fun w_207 k_205 o_206 => ?_)
                refine pw_aload_n (i := 0) C dX5_finish_74 rfl rfl (Or.inr ⟨_, rfl⟩) ?_
                refine pw_dup C dX5_finish_75 rfl ?_
                have c_208 := (o_206 8 (by omega)).trans k8
                refine pw_get (j := 6) C cl_X5 fl_X5_39 (by decide) rfl c_208 rfl dX5_finish_76 ?_
                refine pw_iconst C dX5_finish_79 ?_
                refine pw_iadd C dX5_finish_80 ?_
                refine pw_put (j := 6) C cl_X5 fl_X5_39 (by decide) rfl rfl rfl rfl rfl c_208 (Nat.le_of_ble_eq_true rfl) dX5_finish_81 (fun w_211 k_209 o_210 => ?_)
                have k_212 : w_211 8 = ((A 8), some (OB 5 [.ref (A 2), .ref (A 9), .int (iZ ln), .int (iZ fa), .int (iZ pl), .ref (A 10), .int (iZ ((((Option.toList (none : Option Ob) ++ fls (q :: F2)).length : Nat) : Int) + 1)), .ref (A 11), .ref (A 12), .int (iZ (((q :: F2).length : Nat) : Int)), .int (iZ ((wd : Nat) : Int)), .int (iZ (b2i dg)), .long (lZ am), .long (lZ sp)])) := k_209
                refine pw_aload_n (i := 0) C dX5_finish_84 rfl rfl (Or.inr ⟨_, rfl⟩) ?_
                refine pw_get (j := 8) C cl_X5 fl_X5_26 (by decide) rfl k_212 rfl dX5_finish_85 ?_
                refine pw_aload_n (i := 0) C dX5_finish_88 rfl rfl (Or.inr ⟨_, rfl⟩) ?_
                refine pw_get (j := 9) C cl_X5 fl_X5_42 (by decide) rfl k_212 rfl dX5_finish_89 ?_
                have c_213 := ((o_210 12 (by omega)).trans (o_206 12 (by omega))).trans k12
                have g_214 := ka (((q :: F2).length : Nat) : Int)
                refine pw_iald C c_213 ⟨by omega, by omega, by omega⟩ dX5_finish_92 ?_
                refine pw_if_ne (tgt := 109) C (by omega) dX5_finish_93 (by decide) (fun h_215 => ?_) (fun h_215 => ?_)
                · refine pw_aload_n (i := 0) C dX5_finish_109 rfl rfl (Or.inr ⟨_, rfl⟩) ?_
                  refine pw_get (j := 8) C cl_X5 fl_X5_26 (by decide) rfl k_212 rfl dX5_finish_110 ?_
                  refine pw_aload_n (i := 0) C dX5_finish_113 rfl rfl (Or.inr ⟨_, rfl⟩) ?_
                  refine pw_get (j := 9) C cl_X5 fl_X5_42 (by decide) rfl k_212 rfl dX5_finish_114 ?_
                  refine pw_aload_n (i := 0) C dX5_finish_117 rfl rfl (Or.inr ⟨_, rfl⟩) ?_
                  refine pw_get (j := 8) C cl_X5 fl_X5_26 (by decide) rfl k_212 rfl dX5_finish_118 ?_
                  refine pw_aload_n (i := 0) C dX5_finish_121 rfl rfl (Or.inr ⟨_, rfl⟩) ?_
                  refine pw_get (j := 9) C cl_X5 fl_X5_42 (by decide) rfl k_212 rfl dX5_finish_122 ?_
                  have g_216 := ka (((q :: F2).length : Nat) : Int)
                  refine pw_iald C c_213 ⟨by omega, by omega, by omega⟩ dX5_finish_125 ?_
                  refine pw_iconst C dX5_finish_126 ?_
                  refine pw_icmp_ne (tgt := 134) C (by omega) (by omega) dX5_finish_127 (by decide) (fun h_217 => ?_) (fun h_217 => ?_)
                  · exfalso; omega
                  · refine pw_iconst C dX5_finish_130 ?_
                    refine pw_goto (tgt := 135) C dX5_finish_131 (by decide) ?_
                    refine pw_iast C c_213 ⟨by omega, by omega, by omega⟩ dX5_finish_135 (fun w_220 k_218 o_219 => ?_)
                    have c_221 := (o_219 8 (by omega)).trans k_212
                    have c_222 := ((o_219 9 (by omega)).trans ((o_210 9 (by omega)).trans (o_206 9 (by omega)))).trans k9
                    have c_223 := ((o_219 10 (by omega)).trans (o_210 10 (by omega))).trans k_205
                    have c_224 := ((o_219 11 (by omega)).trans ((o_210 11 (by omega)).trans (o_206 11 (by omega)))).trans k11
                    have S_225 := hS1.same (w' := w_220) (fun k h1 h2 => (o_219 k (by omega)).trans ((o_210 k (by omega)).trans (o_206 k (by omega))))
                    refine pw_vret C hr dX5_finish_136 ⟨rfl, t1, n1, S_225, hext, ?_, ?_, fun k hk => ((o_219 k (by omega)).trans ((o_210 k (by omega)).trans (o_206 k (by omega)))).trans (hf1 k hk)⟩
                    · rw [← hq, d1]; show n1 + 2 * ((qcn (q' :: F2) : Nat) : Int) ≤ _; rw [d4]; omega
                    · rw [← hq, d1]
                      refine ⟨_, _, _, ?_, c_222, c_223, c_224, k_218, upz_inI ki (by omega), kf, upz_inI ka (by decide), ?_, ⟨?_, kw.2.1, kw.2.2.keep (fun j hj => ⟨upz_ne _ _ (by omega), rfl⟩)⟩, ?_⟩
                      · show _ = (A 8, some (rdE A ln fa pl (((Option.toList (none : Option Ob) ++ fls (q' :: F2)).length : Nat) : Int) (((q' :: F2).length : Nat) : Int) ((wd : Nat) : Int) dg am sp))
                        rw [c_221, show (((Option.toList (none : Option Ob) ++ fls (q' :: F2)).length : Nat) : Int) = (((Option.toList (none : Option Ob) ++ fls (q :: F2)).length : Nat) : Int) + 1 by rw [d2]; simp]; rfl
                      · rw [upz_ne _ _ (by omega)]; exact kz
                      · show upz aw (((q :: F2).length : Nat) : Int) _ ((F2.length + 1 : Nat) : Int) = _; rw [show ((F2.length + 1 : Nat) : Int) = (((q :: F2).length : Nat) : Int) from rfl, upz_self, d3, if_pos e1]
                      · rw [d2, ← List.append_assoc]; have := VlsI.add hv kv; rw [Int.zero_add] at this; exact this
                · exfalso; omega
            · exfalso; omega
        · have hT2 := awc0 e3 e1 hFq.2.1 hFq.1
          refine pw_aload_n (i := 0) C dX5_finish_2 rfl rfl (Or.inr ⟨_, rfl⟩) ?_
          refine pw_get (j := 9) C cl_X5 fl_X5_42 (by decide) rfl k8 rfl dX5_finish_3 ?_
          refine pw_if_le (tgt := 54) C (by omega) dX5_finish_6 (by decide) (fun h_301 => ?_) (fun h_301 => ?_)
          · exfalso; omega
          · refine pw_aload_n (i := 0) C dX5_finish_9 rfl rfl (Or.inr ⟨_, rfl⟩) ?_
            refine pw_get (j := 8) C cl_X5 fl_X5_26 (by decide) rfl k8 rfl dX5_finish_10 ?_
            refine pw_aload_n (i := 0) C dX5_finish_13 rfl rfl (Or.inr ⟨_, rfl⟩) ?_
            refine pw_get (j := 9) C cl_X5 fl_X5_42 (by decide) rfl k8 rfl dX5_finish_14 ?_
            have g_302 := ka (((q :: F2).length : Nat) : Int)
            refine pw_iald C k12 ⟨by omega, by omega, by omega⟩ dX5_finish_17 ?_
            refine pw_bipush C dX5_finish_18 (by decide) ?_
            refine pw_icmp_ne (tgt := 54) C (by omega) (by omega) dX5_finish_20 (by decide) (fun h_303 => ?_) (fun h_303 => ?_)
            · refine pw_aload_n (i := 0) C dX5_finish_54 rfl rfl (Or.inr ⟨_, rfl⟩) ?_
              refine pw_get (j := 6) C cl_X5 fl_X5_39 (by decide) rfl k8 rfl dX5_finish_55 ?_
              refine pw_sipush C dX5_finish_58 (by decide) ?_
              refine pw_icmp_ge (tgt := 84) C (by omega) (by omega) dX5_finish_61 (by decide) (fun h_304 => ?_) (fun h_304 => ?_)
              · exfalso; omega
              · refine pw_aload_n (i := 0) C dX5_finish_64 rfl rfl (Or.inr ⟨_, rfl⟩) ?_
                refine pw_get (j := 5) C cl_X5 fl_X5_19 (by decide) rfl k8 rfl dX5_finish_65 ?_
                refine pw_aload_n (i := 0) C dX5_finish_68 rfl rfl (Or.inr ⟨_, rfl⟩) ?_
                refine pw_get (j := 6) C cl_X5 fl_X5_39 (by decide) rfl k8 rfl dX5_finish_69 ?_
                refine pw_iload_n (i := 2) C dX5_finish_72 rfl rfl ?_
                refine pw_iast C k10 ⟨by omega, by omega, by omega⟩ dX5_finish_73 (fun w_307 k_305 o_306 => ?_)
                refine pw_aload_n (i := 0) C dX5_finish_74 rfl rfl (Or.inr ⟨_, rfl⟩) ?_
                refine pw_dup C dX5_finish_75 rfl ?_
                have c_308 := (o_306 8 (by omega)).trans k8
                refine pw_get (j := 6) C cl_X5 fl_X5_39 (by decide) rfl c_308 rfl dX5_finish_76 ?_
                refine pw_iconst C dX5_finish_79 ?_
                refine pw_iadd C dX5_finish_80 ?_
                refine pw_put (j := 6) C cl_X5 fl_X5_39 (by decide) rfl rfl rfl rfl rfl c_308 (Nat.le_of_ble_eq_true rfl) dX5_finish_81 (fun w_311 k_309 o_310 => ?_)
                have k_312 : w_311 8 = ((A 8), some (OB 5 [.ref (A 2), .ref (A 9), .int (iZ ln), .int (iZ fa), .int (iZ pl), .ref (A 10), .int (iZ ((((Option.toList (none : Option Ob) ++ fls (q :: F2)).length : Nat) : Int) + 1)), .ref (A 11), .ref (A 12), .int (iZ (((q :: F2).length : Nat) : Int)), .int (iZ ((wd : Nat) : Int)), .int (iZ (b2i dg)), .long (lZ am), .long (lZ sp)])) := k_309
                refine pw_aload_n (i := 0) C dX5_finish_84 rfl rfl (Or.inr ⟨_, rfl⟩) ?_
                refine pw_get (j := 8) C cl_X5 fl_X5_26 (by decide) rfl k_312 rfl dX5_finish_85 ?_
                refine pw_aload_n (i := 0) C dX5_finish_88 rfl rfl (Or.inr ⟨_, rfl⟩) ?_
                refine pw_get (j := 9) C cl_X5 fl_X5_42 (by decide) rfl k_312 rfl dX5_finish_89 ?_
                have c_313 := ((o_310 12 (by omega)).trans (o_306 12 (by omega))).trans k12
                have g_314 := ka (((q :: F2).length : Nat) : Int)
                refine pw_iald C c_313 ⟨by omega, by omega, by omega⟩ dX5_finish_92 ?_
                refine pw_if_ne (tgt := 109) C (by omega) dX5_finish_93 (by decide) (fun h_315 => ?_) (fun h_315 => ?_)
                · refine pw_aload_n (i := 0) C dX5_finish_109 rfl rfl (Or.inr ⟨_, rfl⟩) ?_
                  refine pw_get (j := 8) C cl_X5 fl_X5_26 (by decide) rfl k_312 rfl dX5_finish_110 ?_
                  refine pw_aload_n (i := 0) C dX5_finish_113 rfl rfl (Or.inr ⟨_, rfl⟩) ?_
                  refine pw_get (j := 9) C cl_X5 fl_X5_42 (by decide) rfl k_312 rfl dX5_finish_114 ?_
                  refine pw_aload_n (i := 0) C dX5_finish_117 rfl rfl (Or.inr ⟨_, rfl⟩) ?_
                  refine pw_get (j := 8) C cl_X5 fl_X5_26 (by decide) rfl k_312 rfl dX5_finish_118 ?_
                  refine pw_aload_n (i := 0) C dX5_finish_121 rfl rfl (Or.inr ⟨_, rfl⟩) ?_
                  refine pw_get (j := 9) C cl_X5 fl_X5_42 (by decide) rfl k_312 rfl dX5_finish_122 ?_
                  have g_316 := ka (((q :: F2).length : Nat) : Int)
                  refine pw_iald C c_313 ⟨by omega, by omega, by omega⟩ dX5_finish_125 ?_
                  refine pw_iconst C dX5_finish_126 ?_
                  refine pw_icmp_ne (tgt := 134) C (by omega) (by omega) dX5_finish_127 (by decide) (fun h_317 => ?_) (fun h_317 => ?_)
                  · refine pw_iconst C dX5_finish_134 ?_
                    refine pw_iast C c_313 ⟨by omega, by omega, by omega⟩ dX5_finish_135 (fun w_320 k_318 o_319 => ?_)
                    have c_321 := (o_319 8 (by omega)).trans k_312
                    have c_322 := ((o_319 9 (by omega)).trans ((o_310 9 (by omega)).trans (o_306 9 (by omega)))).trans k9
                    have c_323 := ((o_319 10 (by omega)).trans (o_310 10 (by omega))).trans k_305
                    have c_324 := ((o_319 11 (by omega)).trans ((o_310 11 (by omega)).trans (o_306 11 (by omega)))).trans k11
                    have S_325 := hS1.same (w' := w_320) (fun k h1 h2 => (o_319 k (by omega)).trans ((o_310 k (by omega)).trans (o_306 k (by omega))))
                    refine pw_vret C hr dX5_finish_136 ⟨rfl, t1, n1, S_325, hext, ?_, ?_, fun k hk => ((o_319 k (by omega)).trans ((o_310 k (by omega)).trans (o_306 k (by omega)))).trans (hf1 k hk)⟩
                    · rw [← hq, d1]; show n1 + 2 * ((qcn (q' :: F2) : Nat) : Int) ≤ _; rw [d4]; omega
                    · rw [← hq, d1]
                      refine ⟨_, _, _, ?_, c_322, c_323, c_324, k_318, upz_inI ki (by omega), kf, upz_inI ka (by decide), ?_, ⟨?_, kw.2.1, kw.2.2.keep (fun j hj => ⟨upz_ne _ _ (by omega), rfl⟩)⟩, ?_⟩
                      · show _ = (A 8, some (rdE A ln fa pl (((Option.toList (none : Option Ob) ++ fls (q' :: F2)).length : Nat) : Int) (((q' :: F2).length : Nat) : Int) ((wd : Nat) : Int) dg am sp))
                        rw [c_321, show (((Option.toList (none : Option Ob) ++ fls (q' :: F2)).length : Nat) : Int) = (((Option.toList (none : Option Ob) ++ fls (q :: F2)).length : Nat) : Int) + 1 by rw [d2]; simp]; rfl
                      · rw [upz_ne _ _ (by omega)]; exact kz
                      · show upz aw (((q :: F2).length : Nat) : Int) _ ((F2.length + 1 : Nat) : Int) = _; rw [show ((F2.length + 1 : Nat) : Int) = (((q :: F2).length : Nat) : Int) from rfl, upz_self, d3, if_neg e1]
                      · rw [d2, ← List.append_assoc]; have := VlsI.add hv kv; rw [Int.zero_add] at this; exact this
                  · exfalso; omega
                · exfalso; omega
            · exfalso; omega
  refine pw_iload_n (i := 1) C dX5_finish_0 rfl rfl ?_
  refine pw_istore_n (i := 2) (lv' := [(0, .ref (A 8)), (1, .int (iZ x)), (2, .int (iZ x))]) C dX5_finish_1 rfl (by decide) rfl ?_
  exact loop F w t n x X hS Ext.rf hR hx rfl (by omega) hFl hFk hic (fun _ _ => rfl)

