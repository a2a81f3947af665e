theorem rAt_cases {f : Int → Int} {i j : Int} (h : rAt f i j ≠ none) : ((scF f (j - i).toNat i true 0 0).1 = true ∧ (scF f (j - i).toNat i true 0 0).2.1 ≤ 4611686018427387903 ∧ rAt f i j = some (.arg (scF f (j - i).toNat i true 0 0).2.1)) ∨ ((scF f (j - i).toNat i true 0 0).1 = false ∧ j - i ≤ 11 ∧ rAt f i j = some (.index (scF f (j - i).toNat i true 0 0).2.2)) := by
  generalize hsc : scF f (j - i).toNat i true 0 0 = S
  obtain ⟨d, v, p⟩ := S
  cases d with
  | true =>
    have e := rAt_d hsc
    by_cases hv : v ≤ 4611686018427387903
    · rw [if_pos hv] at e; exact Or.inl ⟨rfl, hv, e⟩
    · rw [if_neg hv] at e; exact absurd e h
  | false =>
    have e := rAt_s hsc
    by_cases hv : j - i ≤ 11
    · rw [if_pos hv] at e; exact Or.inr ⟨rfl, hv, e⟩
    · rw [if_neg hv] at e; exact absurd e h
theorem scF_p {f : Int → Int} : ∀ (m : Nat) (i : Int) (d : Bool) (v p : Nat), (scF f m i d v p).2.2 < (p + 1) * 47 ^ m
  | 0, i, d, v, p => by simp [scF]
  | m + 1, i, d, v, p => by
    rw [scF]
    have h1 := scF_p (f := f) m (i + 1) (d && isDg (f i)) (if isDg (f i) then 10 * v + (f i - 48).toNat else v) (p * 47 + (ixZ 1 (f i)).toNat)
    have h2 := ixZ_rng (f i)
    refine Nat.lt_of_lt_of_le h1 ?_
    rw [Nat.pow_succ, Nat.mul_comm (47 ^ m) 47, ← Nat.mul_assoc]
    exact Nat.mul_le_mul_right _ (by omega)
theorem scF_small {f : Int → Int} {i j : Int} (h : j - i ≤ 11) : (scF f (j - i).toNat i true 0 0).2.2 < 4611686018427387904 := by
  have h1 := scF_p (f := f) (j - i).toNat i true 0 0
  have h2 : 47 ^ (j - i).toNat ≤ 47 ^ 11 := Nat.pow_le_pow_right (by decide) (by omega)
  have h3 : (47 : Nat) ^ 11 < 4611686018427387904 := by decide
  omega
theorem RdP.none {wd : Nat} {dn : Option Ob} {F : List Rf} {c : Int} (h : RdP wd dn F) (hm : mSt c dn F = true) : dn = none := by
  unfold mSt at hm
  split at hm
  · cases F with
    | nil => cases hm
    | cons q F => exact h.dnc
  · split at hm
    · cases F with
      | nil => cases hm
      | cons q F => exact h.dnc
    · exact h.dn hm
theorem RdP.FKs {wd : Nat} {dn : Option Ob} {F : List Rf} (h : RdP wd dn F) (h2 : ∀ q ∈ F, q.1 ≠ 2) : FKs F := fun q hq => ⟨(h.2.2.2.1 q hq).1, h2 q hq, (h.2.2.2.1 q hq).2.2.1⟩
theorem rTk_40 {f : Int → Int} {i j : Int} {dn : Option Ob} {F : List Rf} (h : f i = 40) : rTk f i j dn F = (dn, (0, [], oNil) :: F) := by unfold rTk; rw [if_pos h]
theorem rTk_39 {f : Int → Int} {i j : Int} {dn : Option Ob} {F : List Rf} (h : f i = 39) : rTk f i j dn F = (dn, (3, [], oNil) :: F) := by unfold rTk; rw [if_neg (by omega), if_pos h]
theorem rTk_46 {f : Int → Int} {i j : Int} {dn : Option Ob} {q : Rf} {F : List Rf} (h : f i = 46) : rTk f i j dn (q :: F) = (dn, (1, q.2.1, oNil) :: F) := by unfold rTk; rw [if_neg (by omega), if_neg (by omega), if_pos h]
theorem rTk_41 {f : Int → Int} {i j : Int} {dn : Option Ob} {q : Rf} {F : List Rf} (h : f i = 41) : rTk f i j dn (q :: F) = rDel (rLs q.2.1 q.2.2) F := by unfold rTk; rw [if_neg (by omega), if_neg (by omega), if_neg (by omega), if_pos h]
theorem rTk_at {f : Int → Int} {i j : Int} {dn : Option Ob} {F : List Rf} {X : Ob} (h1 : f i ≠ 40) (h2 : f i ≠ 39) (h3 : f i ≠ 46) (h4 : f i ≠ 41) (h : rAt f i j = some X) : rTk f i j dn F = rDel X F := by unfold rTk; rw [if_neg h1, if_neg h2, if_neg h3, if_neg h4, h]; rfl
theorem mSt_b {c : Int} {dn : Option Ob} {F : List Rf} (h : mSt c dn F = true) (h1 : c ≠ 41) (h2 : c ≠ 46) : mBeg dn F = true := by unfold mSt at h; rw [if_neg h1, if_neg h2] at h; exact h
theorem mSt_41 {dn : Option Ob} {F : List Rf} (h : mSt 41 dn F = true) : ∃ q F2, F = q :: F2 ∧ (q.1 = 0 ∨ q.1 = 2) := by
  unfold mSt at h
  cases F with
  | nil => cases h
  | cons q F => exact ⟨q, F, rfl, by simpa [mCls] using h⟩
theorem mSt_46 {dn : Option Ob} {F : List Rf} (h : mSt 46 dn F = true) : ∃ q F2, F = q :: F2 ∧ q.1 = 0 := by
  unfold mSt at h
  cases F with
  | nil => cases h
  | cons q F => exact ⟨q, F, rfl, by have : q.1 = 0 ∧ q.2.1 ≠ [] := by simpa [mDot] using h
                                     exact this.1⟩
set_option maxRecDepth 100000 in
set_option maxHeartbeats 4000000 in
/-- take -/
theorem m_X5_take (g : pw_P) (l : Launch) {w : pw_W} {A : Nat → Nat} {cap : Nat} {t : Int → Ob} {n : Int} {F : List Rf} {ln fa pl : Int} {wd : Nat} {dg : Bool} {am sp : Int} {f : Int → Int} (hS : SB g w (A 2) cap t n) (hR : RdS g w A t n none F ln fa pl ((wd : Nat) : Int) dg am sp f) (hfc : ∀ j, 0 ≤ f j ∧ f j < 256) (hFl : F.length ≤ 40) (hwd : wd ≤ 1000) {i j : Int} (hP : RdP wd none F) (h0 : rFa f i j wd none F = 0) (hsc : atL (f i) = true → dg = (scF f (j - i).toNat i true 0 0).1 ∧ am = amC (scF f (j - i).toNat i true 0 0).2.1 ∧ sp = (((scF f (j - i).toNat i true 0 0).2.2 : Nat) : Int)) (hcap : n + (icn F : Nat) + 2 * (qcn F : Nat) + 1 ≤ cap) : pw_M g l yX5_take cX5_take 2 none { frames := 5, cells := 0, slots := 0, locals := 116 } [.ref (A 8), .int (iZ (f i))] w (fun r w' => r = none ∧ ∃ (t' : Int → Ob) (n' : Int), SB g w' (A 2) cap t' n' ∧ Ext t n t' n' ∧ n' + (icn (rTk f i j none F).2 : Nat) + 2 * (qcn (rTk f i j none F).2 : Nat) ≤ n + (icn F : Nat) + 2 * (qcn F : Nat) + 2 ∧ RdS g w' A t' n' (rTk f i j none F).1 (rTk f i j none F).2 ln fa pl ((wd + 1 : Nat) : Int) dg am sp f ∧ ∀ k, (k < 2 ∨ 12 < k) → w' k = w k) := by
  refine pw_M.of (by decide) (Nat.le_of_ble_eq_true rfl) rfl ?_
  intro p e s m args below meth c C hr hn
  obtain ⟨it, fi, aw, k8, k9, k10, k11, k12, ki, kf, ka, kz, kw, kv⟩ := id hR
  have hn0 := hS.n
  obtain ⟨a1, a2, a3, a4, a5⟩ := rFa_0 h0
  refine pw_aload_n (i := 0) C dX5_take_0 rfl rfl (Or.inr ⟨_, rfl⟩) ?_
  refine pw_dup C dX5_take_1 rfl ?_
  refine pw_get (j := 10) C cl_X5 fl_X5_45 (by decide) rfl k8 rfl dX5_take_2 ?_
  refine pw_iconst C dX5_take_5 ?_
  refine pw_iadd C dX5_take_6 ?_
  refine pw_put (j := 10) C cl_X5 fl_X5_45 (by decide) rfl rfl rfl rfl rfl k8 (Nat.le_of_ble_eq_true rfl) dX5_take_7 (fun w_3 k_1 o_2 => ?_)
  have k_4 : w_3 8 = ((A 8), some (OB 5 [.ref (A 2), .ref (A 9), .int (iZ ln), .int (iZ fa), .int (iZ pl), .ref (A 10), .int (iZ (((Option.toList (none : Option Ob) ++ fls F).length : Nat) : Int)), .ref (A 11), .ref (A 12), .int (iZ ((F.length : Nat) : Int)), .int (iZ (((wd : Nat) : Int) + 1)), .int (iZ (b2i dg)), .long (lZ am), .long (lZ sp)])) := k_1
  have hR1 : RdS g w_3 A t n none F ln fa pl ((wd + 1 : Nat) : Int) dg am sp f := hR.obj (by rw [k_4]; rfl) (fun k hk => (o_2 k (by omega)))
  have hS1 := hS.same (w' := w_3) (fun k h1 h2 => (o_2 k (by omega)))
  have hci := hfc i
  refine pw_iload_n (i := 1) C dX5_take_10 rfl rfl ?_
  by_cases hc39 : f i = 39
  · refine pw_tsIn (tgt := 64) (off := 53) C dX5_take_11 (by omega) (by omega) (by omega) (by rw [hc39]; rfl) (by decide) ?_
    refine pw_aload_n (i := 0) C dX5_take_64 rfl rfl (Or.inr ⟨_, rfl⟩) ?_
    refine pw_bipush C dX5_take_65 (by decide) ?_
    refine pw_callV (As := [.int (iZ 6)]) (st := []) C (m_X5_openAt g l hR1 hfc (a4 (by omega)) (by omega) (kd := 3) (x := 6) rfl (by decide) (by decide) (by have := fls_len F; have := hP.2.1; omega)) my_X5_openAt ml_X5_103 (hR1.rec C) rfl ⟨Nat.le_of_ble_eq_true rfl, Nat.le_of_ble_eq_true rfl⟩ ⟨by (try dsimp only); omega, by (try dsimp only); omega⟩ rfl (Nat.le_of_ble_eq_true rfl) dX5_take_67 ?_
    rintro _ w_5 ⟨rfl, hRo, hoo⟩
    refine pw_stk (st' := []) rfl ?_
    refine pw_goto (tgt := 129) C dX5_take_70 (by decide) ?_
    refine pw_vret C hr dX5_take_129 ⟨rfl, t, n, hS1.same (fun k h1 h2 => hoo k (by omega)), Ext.rf, ?_, ?_, fun k hk => (hoo k (by omega)).trans (o_2 k (by omega))⟩
    · rw [rTk_39 hc39]; simp only [icn, qcn, icF, List.length_nil]; rw [if_neg (by decide), if_pos (by decide)]; omega
    · rw [rTk_39 hc39]; exact hRo
  by_cases hc40 : f i = 40
  · refine pw_tsIn (tgt := 56) (off := 45) C dX5_take_11 (by omega) (by omega) (by omega) (by rw [hc40]; rfl) (by decide) ?_
    refine pw_aload_n (i := 0) C dX5_take_56 rfl rfl (Or.inr ⟨_, rfl⟩) ?_
    refine pw_iconst C dX5_take_57 ?_
    refine pw_callV (As := [.int (iZ 2)]) (st := []) C (m_X5_openAt g l hR1 hfc (a4 (by omega)) (by omega) (kd := 0) (x := 2) rfl (by decide) (by decide) (by have := fls_len F; have := hP.2.1; omega)) my_X5_openAt ml_X5_103 (hR1.rec C) rfl ⟨Nat.le_of_ble_eq_true rfl, Nat.le_of_ble_eq_true rfl⟩ ⟨by (try dsimp only); omega, by (try dsimp only); omega⟩ rfl (Nat.le_of_ble_eq_true rfl) dX5_take_58 ?_
    rintro _ w_6 ⟨rfl, hRo, hoo⟩
    refine pw_stk (st' := []) rfl ?_
    refine pw_goto (tgt := 129) C dX5_take_61 (by decide) ?_
    refine pw_vret C hr dX5_take_129 ⟨rfl, t, n, hS1.same (fun k h1 h2 => hoo k (by omega)), Ext.rf, ?_, ?_, fun k hk => (hoo k (by omega)).trans (o_2 k (by omega))⟩
    · rw [rTk_40 hc40]; simp only [icn, qcn, icF, List.length_nil]; rw [if_neg (by decide), if_neg (by decide)]; omega
    · rw [rTk_40 hc40]; exact hRo
  by_cases hc41 : f i = 41
  · refine pw_tsIn (tgt := 86) (off := 75) C dX5_take_11 (by omega) (by omega) (by omega) (by rw [hc41]; rfl) (by decide) ?_
    obtain ⟨q, F2, hFe, hqk⟩ := mSt_41 (hc41 ▸ a3)
    refine pw_aload_n (i := 0) C dX5_take_86 rfl rfl (Or.inr ⟨_, rfl⟩) ?_
    have hRq := hR1
    rw [hFe] at hRq
    have hPq := hP
    rw [hFe] at hPq
    have hqf := hPq.2.2.2.1 q List.mem_cons_self
    have hqi : icn F = q.2.1.length + (if q.1 = 2 then 1 else 0) + icn F2 := by rw [hFe]; rfl
    have hqq : qcn F = qcn F2 := by rw [hFe]; simp only [qcn]; rw [if_neg (by omega)]; omega
    have hFk2 : FKs F2 := fun y hy => ⟨(hPq.2.2.2.1 y (List.mem_cons_of_mem _ hy)).1, hPq.2.2.2.2.2 y hy, (hPq.2.2.2.1 y (List.mem_cons_of_mem _ hy)).2.2.1⟩
    refine pw_callV (As := []) (st := []) C (m_X5_closeList g l hS1 hRq hfc (by rw [← hFe]; exact hFl) (by omega) hFk2 hqk hqf.2.1 (by rw [← hFe]; have := hP.2.1; omega) (by omega)) my_X5_closeList ml_X5_107 (hR1.rec C) rfl ⟨Nat.le_of_ble_eq_true rfl, Nat.le_of_ble_eq_true rfl⟩ ⟨by (try dsimp only); omega, by (try dsimp only); omega⟩ rfl (Nat.le_of_ble_eq_true rfl) dX5_take_87 ?_
    rintro _ w_7 ⟨rfl, tf, nf, hSf, hxf, hnf, hRf, hof⟩
    have hic2 := rDel_icn F2 (rLs q.2.1 q.2.2) (fun y hy => (hFk2 y hy).2.1)
    refine pw_stk (st' := []) rfl ?_
    refine pw_goto (tgt := 129) C dX5_take_90 (by decide) ?_
    refine pw_vret C hr dX5_take_129 ⟨rfl, tf, nf, hSf, hxf, ?_, ?_, fun k hk => (hof k (by omega)).trans (o_2 k (by omega))⟩
    · rw [hqq, hqi, hFe, rTk_41 hc41]; omega
    · rw [hFe, rTk_41 hc41]; exact hRf
  by_cases hc46 : f i = 46
  · refine pw_tsIn (tgt := 73) (off := 62) C dX5_take_11 (by omega) (by omega) (by omega) (by rw [hc46]; rfl) (by decide) ?_
    obtain ⟨q, F2, hFe, hqk⟩ := mSt_46 (hc46 ▸ a3)
    have hFl1 : F.length = F2.length + 1 := by rw [hFe]; rfl
    refine pw_aload_n (i := 0) C dX5_take_73 rfl rfl (Or.inr ⟨_, rfl⟩) ?_
    refine pw_get (j := 8) C cl_X5 fl_X5_26 (by decide) rfl k_4 rfl dX5_take_74 ?_
    refine pw_aload_n (i := 0) C dX5_take_77 rfl rfl (Or.inr ⟨_, rfl⟩) ?_
    refine pw_get (j := 9) C cl_X5 fl_X5_42 (by decide) rfl k_4 rfl dX5_take_78 ?_
    refine pw_iconst C dX5_take_81 ?_
    have c_8 := (o_2 12 (by omega)).trans k12
    refine pw_iast C c_8 ⟨by omega, by omega, by omega⟩ dX5_take_82 (fun w_11 k_9 o_10 => ?_)
    refine pw_goto (tgt := 129) C dX5_take_83 (by decide) ?_
    have c_12 := (o_10 8 (by omega)).trans k_4
    have c_13 := ((o_10 9 (by omega)).trans (o_2 9 (by omega))).trans k9
    have c_14 := ((o_10 10 (by omega)).trans (o_2 10 (by omega))).trans k10
    have c_15 := ((o_10 11 (by omega)).trans (o_2 11 (by omega))).trans k11
    rw [hFe] at kw kv
    have hfq : fls ((1, q.2.1, oNil) :: F2) = fls (q :: F2) := by simp [fls, hqk]
    refine pw_vret C hr dX5_take_129 ⟨rfl, t, n, hS1.same (fun k h1 h2 => (o_10 k (by omega))), Ext.rf, ?_, ?_, fun k hk => (o_10 k (by omega)).trans (o_2 k (by omega))⟩
    · rw [hFe, rTk_46 hc46]; simp only [icn, qcn, icF]; rw [if_neg (show ¬ (1 : Nat) = 2 by decide), if_neg (show ¬ (1 : Nat) = 3 by decide), if_neg (show ¬ q.1 = 2 by omega), if_neg (show ¬ q.1 = 3 by omega)]; omega
    · rw [hFe, rTk_46 hc46]
      refine ⟨it, fi, _, ?_, c_13, c_14, c_15, k_9, ki, kf, upz_inI ka (by decide), ?_, ⟨?_, kw.2.1, kw.2.2.keep (fun j hj => ⟨upz_ne _ _ (by omega), rfl⟩)⟩, ?_⟩
      · show _ = (A 8, some (rdE A ln fa pl (((Option.toList (none : Option Ob) ++ fls ((1, q.2.1, oNil) :: F2)).length : Nat) : Int) _ _ dg am sp)); rw [c_12, hfq, hFe]; rfl
      · rw [upz_ne _ _ (by omega)]; exact kz
      · rw [hFe]; exact upz_self _ _ _
      · rw [hfq]; exact kv
  have hal : atL (f i) = true := by rcases a1 with h | h | h | h | h <;> first | exact h | exact absurd h (by assumption)
  have hbg := mSt_b a3 hc41 hc46
  have hk2 := hP.ne2 hbg
  obtain ⟨s1, s2, s3⟩ := hsc hal
  have hicn := rDel_icn F
  by_cases hin : 42 ≤ f i ∧ f i ≤ 45
  · have h4 : f i = 42 ∨ f i = 43 ∨ f i = 44 ∨ f i = 45 := by omega
    refine pw_tsIn (x := f i) (tgt := 93) (off := 82) C dX5_take_11 (by omega) (by omega) (by omega) (by rcases h4 with h | h | h | h <;> rw [h] <;> rfl) (by decide) ?_
    refine pw_aload_n (i := 0) C dX5_take_93 rfl rfl (Or.inr ⟨_, rfl⟩) ?_
    refine pw_aload_n (i := 0) C dX5_take_94 rfl rfl (Or.inr ⟨_, rfl⟩) ?_
    refine pw_get (j := 11) C cl_X5 fl_X5_84 (by decide) rfl k_4 rfl dX5_take_95 ?_
    refine pw_if_eqB (tgt := 115) C dX5_take_98 (by decide) (fun h_16 => ?_) (fun h_16 => ?_)
    · obtain ⟨hb1, hb2, hb3⟩ := (rAt_cases (a2 hal)).resolve_left (fun q => by rw [s1, q.1] at h_16; cases h_16)
      refine pw_aload_n (i := 0) C dX5_take_115 rfl rfl (Or.inr ⟨_, rfl⟩) ?_
      refine pw_get (j := 0) C cl_X5 fl_X5_29 (by decide) rfl k_4 rfl dX5_take_116 ?_
      refine pw_aload_n (i := 0) C dX5_take_119 rfl rfl (Or.inr ⟨_, rfl⟩) ?_
      refine pw_get (j := 13) C cl_X5 fl_X5_92 (by decide) rfl k_4 rfl dX5_take_120 ?_
      refine pw_stk (st' := [.long (lZ (((scF f (j - i).toNat i true 0 0).2.2 : Nat) : Int)), .ref (A 2), .ref (A 8)]) (by rw [show (((scF f (j - i).toNat i true 0 0).2.2 : Nat) : Int) = sp from s3.symm]) ?_
      refine pw_callV (As := [.long (lZ (((scF f (j - i).toNat i true 0 0).2.2 : Nat) : Int))]) (st := [.ref (A 8)]) C (vr_symbol hS1 (by omega) (m := (scF f (j - i).toNat i true 0 0).2.2) (scF_small hb2)) my_X6_symbol ml_X5_116 (hS1.rec C) rfl ⟨Nat.le_of_ble_eq_true rfl, Nat.le_of_ble_eq_true rfl⟩ ⟨by (try dsimp only); omega, by (try dsimp only); omega⟩ rfl (Nat.le_of_ble_eq_true rfl) dX5_take_123 ?_
      rintro _ w_24 ⟨z_17, t_18, n_19, rfl, S_20, x_21, hn_22, z_17v, o_23⟩
      have x_211 := x_21.1
      have z_17r := Vl.rng S_20 z_17v
      refine pw_stk (st' := [.int (iZ z_17), .ref (A 8)]) rfl ?_
      have hR2 : RdS g w_24 A t_18 n_19 none F ln fa pl ((wd + 1 : Nat) : Int) dg am sp f := hR1.same (fun k hk => (o_23 k (by omega))) x_21
      refine pw_callV (As := [.int (iZ z_17)]) (st := []) C (m_X5_finish g l S_20 hR2 hfc hFl (by omega) (hP.FKs hk2) (by have := hP.2.1; omega) z_17v (by omega)) my_X5_finish ml_X5_119 (hR2.rec C) rfl ⟨Nat.le_of_ble_eq_true rfl, Nat.le_of_ble_eq_true rfl⟩ ⟨by (try dsimp only); omega, by (try dsimp only); omega⟩ rfl (Nat.le_of_ble_eq_true rfl) dX5_take_126 ?_
      rintro _ w_25 ⟨rfl, tf, nf, hSf, hxf, hnf, hRf, hof⟩
      refine pw_stk (st' := []) rfl ?_
      have hrt : rTk f i j none F = rDel (.index (scF f (j - i).toNat i true 0 0).2.2) F := rTk_at hc40 hc39 hc46 hc41 hb3
      have hi2 := hicn (.index (scF f (j - i).toNat i true 0 0).2.2) hk2
      refine pw_vret C hr dX5_take_129 ⟨rfl, tf, nf, hSf, x_21.tr hxf, ?_, ?_, fun k hk => (hof k (by omega)).trans ((o_23 k (by omega)).trans (o_2 k (by omega)))⟩
      · rw [hrt]; omega
      · rw [hrt]; exact hRf
    · obtain ⟨hb1, hb2, hb3⟩ := (rAt_cases (a2 hal)).resolve_right (fun q => by rw [s1, q.1] at h_16; cases h_16)
      refine pw_aload_n (i := 0) C dX5_take_101 rfl rfl (Or.inr ⟨_, rfl⟩) ?_
      refine pw_get (j := 0) C cl_X5 fl_X5_29 (by decide) rfl k_4 rfl dX5_take_102 ?_
      refine pw_aload_n (i := 0) C dX5_take_105 rfl rfl (Or.inr ⟨_, rfl⟩) ?_
      refine pw_get (j := 12) C cl_X5 fl_X5_88 (by decide) rfl k_4 rfl dX5_take_106 ?_
      refine pw_stk (st' := [.long (lZ (((scF f (j - i).toNat i true 0 0).2.1 : Nat) : Int)), .ref (A 2), .ref (A 8)]) (by rw [show (((scF f (j - i).toNat i true 0 0).2.1 : Nat) : Int) = am from (by rw [s2]; unfold amC; rw [if_pos hb2])]) ?_
      refine pw_callV (As := [.long (lZ (((scF f (j - i).toNat i true 0 0).2.1 : Nat) : Int))]) (st := [.ref (A 8)]) C (vr_natural hS1 (by omega) (m := (scF f (j - i).toNat i true 0 0).2.1) (by omega)) my_X6_natural ml_X5_110 (hS1.rec C) rfl ⟨Nat.le_of_ble_eq_true rfl, Nat.le_of_ble_eq_true rfl⟩ ⟨by (try dsimp only); omega, by (try dsimp only); omega⟩ rfl (Nat.le_of_ble_eq_true rfl) dX5_take_109 ?_
      rintro _ w_33 ⟨z_26, t_27, n_28, rfl, S_29, x_30, hn_31, z_26v, o_32⟩
      have x_301 := x_30.1
      have z_26r := Vl.rng S_29 z_26v
      refine pw_stk (st' := [.int (iZ z_26), .ref (A 8)]) rfl ?_
      refine pw_goto (tgt := 126) C dX5_take_112 (by decide) ?_
      have hR2 : RdS g w_33 A t_27 n_28 none F ln fa pl ((wd + 1 : Nat) : Int) dg am sp f := hR1.same (fun k hk => (o_32 k (by omega))) x_30
      refine pw_callV (As := [.int (iZ z_26)]) (st := []) C (m_X5_finish g l S_29 hR2 hfc hFl (by omega) (hP.FKs hk2) (by have := hP.2.1; omega) z_26v (by omega)) my_X5_finish ml_X5_119 (hR2.rec C) rfl ⟨Nat.le_of_ble_eq_true rfl, Nat.le_of_ble_eq_true rfl⟩ ⟨by (try dsimp only); omega, by (try dsimp only); omega⟩ rfl (Nat.le_of_ble_eq_true rfl) dX5_take_126 ?_
      rintro _ w_34 ⟨rfl, tf, nf, hSf, hxf, hnf, hRf, hof⟩
      refine pw_stk (st' := []) rfl ?_
      have hrt : rTk f i j none F = rDel (.arg (scF f (j - i).toNat i true 0 0).2.1) F := rTk_at hc40 hc39 hc46 hc41 hb3
      have hi2 := hicn (.arg (scF f (j - i).toNat i true 0 0).2.1) hk2
      refine pw_vret C hr dX5_take_129 ⟨rfl, tf, nf, hSf, x_30.tr hxf, ?_, ?_, fun k hk => (hof k (by omega)).trans ((o_32 k (by omega)).trans (o_2 k (by omega)))⟩
      · rw [hrt]; omega
      · rw [hrt]; exact hRf
  · refine pw_tsOut (tgt := 93) C dX5_take_11 (by omega) (by omega) (by decide) ?_
    refine pw_aload_n (i := 0) C dX5_take_93 rfl rfl (Or.inr ⟨_, rfl⟩) ?_
    refine pw_aload_n (i := 0) C dX5_take_94 rfl rfl (Or.inr ⟨_, rfl⟩) ?_
    refine pw_get (j := 11) C cl_X5 fl_X5_84 (by decide) rfl k_4 rfl dX5_take_95 ?_
    refine pw_if_eqB (tgt := 115) C dX5_take_98 (by decide) (fun h_35 => ?_) (fun h_35 => ?_)
    · obtain ⟨hb1, hb2, hb3⟩ := (rAt_cases (a2 hal)).resolve_left (fun q => by rw [s1, q.1] at h_35; cases h_35)
      refine pw_aload_n (i := 0) C dX5_take_115 rfl rfl (Or.inr ⟨_, rfl⟩) ?_
      refine pw_get (j := 0) C cl_X5 fl_X5_29 (by decide) rfl k_4 rfl dX5_take_116 ?_
      refine pw_aload_n (i := 0) C dX5_take_119 rfl rfl (Or.inr ⟨_, rfl⟩) ?_
      refine pw_get (j := 13) C cl_X5 fl_X5_92 (by decide) rfl k_4 rfl dX5_take_120 ?_
      refine pw_stk (st' := [.long (lZ (((scF f (j - i).toNat i true 0 0).2.2 : Nat) : Int)), .ref (A 2), .ref (A 8)]) (by rw [show (((scF f (j - i).toNat i true 0 0).2.2 : Nat) : Int) = sp from s3.symm]) ?_
      refine pw_callV (As := [.long (lZ (((scF f (j - i).toNat i true 0 0).2.2 : Nat) : Int))]) (st := [.ref (A 8)]) C (vr_symbol hS1 (by omega) (m := (scF f (j - i).toNat i true 0 0).2.2) (scF_small hb2)) my_X6_symbol ml_X5_116 (hS1.rec C) rfl ⟨Nat.le_of_ble_eq_true rfl, Nat.le_of_ble_eq_true rfl⟩ ⟨by (try dsimp only); omega, by (try dsimp only); omega⟩ rfl (Nat.le_of_ble_eq_true rfl) dX5_take_123 ?_
      rintro _ w_43 ⟨z_36, t_37, n_38, rfl, S_39, x_40, hn_41, z_36v, o_42⟩
      have x_401 := x_40.1
      have z_36r := Vl.rng S_39 z_36v
      refine pw_stk (st' := [.int (iZ z_36), .ref (A 8)]) rfl ?_
      have hR2 : RdS g w_43 A t_37 n_38 none F ln fa pl ((wd + 1 : Nat) : Int) dg am sp f := hR1.same (fun k hk => (o_42 k (by omega))) x_40
      refine pw_callV (As := [.int (iZ z_36)]) (st := []) C (m_X5_finish g l S_39 hR2 hfc hFl (by omega) (hP.FKs hk2) (by have := hP.2.1; omega) z_36v (by omega)) my_X5_finish ml_X5_119 (hR2.rec C) rfl ⟨Nat.le_of_ble_eq_true rfl, Nat.le_of_ble_eq_true rfl⟩ ⟨by (try dsimp only); omega, by (try dsimp only); omega⟩ rfl (Nat.le_of_ble_eq_true rfl) dX5_take_126 ?_
      rintro _ w_44 ⟨rfl, tf, nf, hSf, hxf, hnf, hRf, hof⟩
      refine pw_stk (st' := []) rfl ?_
      have hrt : rTk f i j none F = rDel (.index (scF f (j - i).toNat i true 0 0).2.2) F := rTk_at hc40 hc39 hc46 hc41 hb3
      have hi2 := hicn (.index (scF f (j - i).toNat i true 0 0).2.2) hk2
      refine pw_vret C hr dX5_take_129 ⟨rfl, tf, nf, hSf, x_40.tr hxf, ?_, ?_, fun k hk => (hof k (by omega)).trans ((o_42 k (by omega)).trans (o_2 k (by omega)))⟩
      · rw [hrt]; omega
      · rw [hrt]; exact hRf
    · obtain ⟨hb1, hb2, hb3⟩ := (rAt_cases (a2 hal)).resolve_right (fun q => by rw [s1, q.1] at h_35; cases h_35)
      refine pw_aload_n (i := 0) C dX5_take_101 rfl rfl (Or.inr ⟨_, rfl⟩) ?_
      refine pw_get (j := 0) C cl_X5 fl_X5_29 (by decide) rfl k_4 rfl dX5_take_102 ?_
      refine pw_aload_n (i := 0) C dX5_take_105 rfl rfl (Or.inr ⟨_, rfl⟩) ?_
      refine pw_get (j := 12) C cl_X5 fl_X5_88 (by decide) rfl k_4 rfl dX5_take_106 ?_
      refine pw_stk (st' := [.long (lZ (((scF f (j - i).toNat i true 0 0).2.1 : Nat) : Int)), .ref (A 2), .ref (A 8)]) (by rw [show (((scF f (j - i).toNat i true 0 0).2.1 : Nat) : Int) = am from (by rw [s2]; unfold amC; rw [if_pos hb2])]) ?_
      refine pw_callV (As := [.long (lZ (((scF f (j - i).toNat i true 0 0).2.1 : Nat) : Int))]) (st := [.ref (A 8)]) C (vr_natural hS1 (by omega) (m := (scF f (j - i).toNat i true 0 0).2.1) (by omega)) my_X6_natural ml_X5_110 (hS1.rec C) rfl ⟨Nat.le_of_ble_eq_true rfl, Nat.le_of_ble_eq_true rfl⟩ ⟨by (try dsimp only); omega, by (try dsimp only); omega⟩ rfl (Nat.le_of_ble_eq_true rfl) dX5_take_109 ?_
      rintro _ w_52 ⟨z_45, t_46, n_47, rfl, S_48, x_49, hn_50, z_45v, o_51⟩
      have x_491 := x_49.1
      have z_45r := Vl.rng S_48 z_45v
      refine pw_stk (st' := [.int (iZ z_45), .ref (A 8)]) rfl ?_
      refine pw_goto (tgt := 126) C dX5_take_112 (by decide) ?_
      have hR2 : RdS g w_52 A t_46 n_47 none F ln fa pl ((wd + 1 : Nat) : Int) dg am sp f := hR1.same (fun k hk => (o_51 k (by omega))) x_49
      refine pw_callV (As := [.int (iZ z_45)]) (st := []) C (m_X5_finish g l S_48 hR2 hfc hFl (by omega) (hP.FKs hk2) (by have := hP.2.1; omega) z_45v (by omega)) my_X5_finish ml_X5_119 (hR2.rec C) rfl ⟨Nat.le_of_ble_eq_true rfl, Nat.le_of_ble_eq_true rfl⟩ ⟨by (try dsimp only); omega, by (try dsimp only); omega⟩ rfl (Nat.le_of_ble_eq_true rfl) dX5_take_126 ?_
      rintro _ w_53 ⟨rfl, tf, nf, hSf, hxf, hnf, hRf, hof⟩
      refine pw_stk (st' := []) rfl ?_
      have hrt : rTk f i j none F = rDel (.arg (scF f (j - i).toNat i true 0 0).2.1) F := rTk_at hc40 hc39 hc46 hc41 hb3
      have hi2 := hicn (.arg (scF f (j - i).toNat i true 0 0).2.1) hk2
      refine pw_vret C hr dX5_take_129 ⟨rfl, tf, nf, hSf, x_49.tr hxf, ?_, ?_, fun k hk => (hof k (by omega)).trans ((o_51 k (by omega)).trans (o_2 k (by omega)))⟩
      · rw [hrt]; omega
      · rw [hrt]; exact hRf

