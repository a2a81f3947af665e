theorem lst_M {σ : Nat → Int → Int} (f2 f3 f4 : Int → Int) (c : Int) (k : Nat) : lst (sM (σ 0) (σ 1) f2 f3 f4) c k = lst σ c k := lst_eq c k (fun m _ _ => ⟨rfl, rfl⟩)
theorem sC_pop {σ : Nat → Int → Int} {n : Int} (h : sC σ n) (hn : 0 < n) : sC (sM (σ 0) (σ 1) (σ 2) (σ 3) (upz (σ 4) (bkt (σ 0 (n - 1)) (σ 1 (n - 1))) (σ 3 (n - 1)))) (n - 1) := by
  obtain ⟨h1, h2⟩ := h
  have e : n.toNat = (n - 1).toNat + 1 := by omega
  have e2 : ((n - 1).toNat : Int) = n - 1 := by omega
  refine ⟨fun c c0 c1 => ?_, fun i i0 i1 => ?_⟩
  · have hl := h1 c c0 c1
    rw [e, lst, e2] at hl
    show upz (σ 4) _ _ c = _
    by_cases hc : c = bkt (σ 0 (n - 1)) (σ 1 (n - 1))
    · rw [hc, upz_self, h2 (n - 1) (by omega) (by omega)]
      exact (lst_M _ _ _ _ _).symm
    · rw [upz_ne _ _ hc, hl, if_neg (fun q => hc q.symm)]
      exact (lst_M _ _ _ _ _).symm
  · show σ 3 i = _
    rw [h2 i i0 (by omega)]
    exact (lst_M _ _ _ _ _).symm
/-- the store with fewer objects: only the buckets are other ones -/
def sForget (g : pw_P) (w w' : pw_W) (cap : Nat) (σ : Nat → Int → Int) (q : Int) : Prop :=
  ∃ f4 : Int → Int, St g w' cap (sM (σ 0) (σ 1) (σ 2) (σ 3) f4) q ∧ sC (sM (σ 0) (σ 1) (σ 2) (σ 3) f4) q ∧ (w' 2).1 = (w 2).1 ∧ ∀ k, (k < 2 ∨ 7 < k) → w' k = w k
theorem sC_eta {σ : Nat → Int → Int} {n : Int} (h : sC σ n) : sC (sM (σ 0) (σ 1) (σ 2) (σ 3) (σ 4)) n :=
  ⟨fun c h1 h2 => (h.1 c h1 h2).trans (lst_M _ _ _ _ _).symm, fun i h1 h2 => (h.2 i h1 h2).trans (lst_M _ _ _ _ _).symm⟩
set_option maxRecDepth 100000 in
set_option maxHeartbeats 4000000 in
/-- forgetFrom -/
theorem m_X6_forgetFrom (g : pw_P) (l : Launch) {w : pw_W} {cap : Nat} {σ : Nat → Int → Int} {n q : Int} (hS : St g w cap σ n) (hC : sC σ n) (hq : 17 ≤ q ∧ q ≤ n) : pw_M g l yX6_forgetFrom cX6_forgetFrom 3 none { frames := 1, cells := 0, slots := 0, locals := 24 } [.ref (w 2).1, .int (iZ q)] w (fun r w' => r = none ∧ sForget g w w' cap σ q) := by
  refine pw_M.of (by decide) (Nat.le_of_ble_eq_true rfl) rfl ?_
  intro p e s m args below meth c C hr hn
  have hN := hS.rN
  have loop : ∀ (fu : Nat) (k : Int) (w1 : pw_W) (f4 : Int → Int), q + fu = k → k ≤ n → w1 2 = ((w 2).1, some (OB 6 [.ref (w 3).1, .ref (w 4).1, .ref (w 5).1, .ref (w 6).1, .ref (w 7).1, .int (iZ k)])) → w1 3 = ((w 3).1, some (AJ g cap (σ 0))) → w1 4 = ((w 4).1, some (AI g cap (σ 1))) → w1 5 = ((w 5).1, some (AI g cap (σ 2))) → w1 6 = ((w 6).1, some (AI g cap (σ 3))) → w1 7 = ((w 7).1, some (AI g 1024 f4)) → (∀ j, inI (f4 j)) → sC (sM (σ 0) (σ 1) (σ 2) (σ 3) f4) k → (∀ j, (j < 2 ∨ 7 < j) → w1 j = w j) → pw_G g p l e { frames := 1, cells := 0, slots := 0, locals := 24 } s m args below meth c 3 (pw_Q g below (fun r w' => r = none ∧ sForget g w w' cap σ q) args s { frames := 1, cells := 0, slots := 0, locals := 24 }) 0 0 7 [(0, .ref ((w 2).1)), (1, .int (iZ q)), (2, .int (iZ (k - 1)))] [] w1 := by
    intro fu
    induction fu with
    | zero =>
      intro k w1 f4 hk1 hk2 e2 e3 e4 e5 e6 e7 r4 hc1 ho
      refine pw_iload_n (i := 2) C dX6_forgetFrom_7 rfl rfl ?_
      refine pw_iload_n (i := 1) C dX6_forgetFrom_8 rfl rfl ?_
      refine pw_icmp_lt (tgt := 55) C (by omega) (by omega) dX6_forgetFrom_9 (by decide) (fun h_1 => ?_) (fun h_1 => ?_)
      · have hkq : k = q := by omega
        subst hkq
        exact pw_vret C hr dX6_forgetFrom_55 ⟨rfl, f4, St.mk' e2 e3 e4 e5 e6 e7 (by omega) hS.rL (hS.rI 1 (by decide)) (hS.rI 2 (by decide)) (hS.rI 3 (by decide)) r4, hc1, by rw [e2], ho⟩
      · exfalso; omega
    | succ fu ih =>
      intro k w1 f4 hk1 hk2 e2 e3 e4 e5 e6 e7 r4 hc1 ho
      refine pw_iload_n (i := 2) C dX6_forgetFrom_7 rfl rfl ?_
      refine pw_iload_n (i := 1) C dX6_forgetFrom_8 rfl rfl ?_
      refine pw_icmp_lt (tgt := 55) C (by omega) (by omega) dX6_forgetFrom_9 (by decide) (fun h_101 => ?_) (fun h_101 => ?_)
      · exfalso; omega
      · refine pw_iload_n (i := 2) C dX6_forgetFrom_12 rfl rfl ?_
        refine pw_bipush C dX6_forgetFrom_13 (by decide) ?_
        refine pw_icmp_le (tgt := 55) C (by omega) (by omega) dX6_forgetFrom_15 (by decide) (fun h_102 => ?_) (fun h_102 => ?_)
        · exfalso; omega
        · refine pw_aload_n (i := 0) C dX6_forgetFrom_18 rfl rfl (Or.inr ⟨_, rfl⟩) ?_
          refine pw_get (j := 4) C cl_X6 fl_X6_25 (by decide) rfl e2 rfl dX6_forgetFrom_19 ?_
          refine pw_aload_n (i := 0) C dX6_forgetFrom_22 rfl rfl (Or.inr ⟨_, rfl⟩) ?_
          refine pw_get (j := 0) C cl_X6 fl_X6_11 (by decide) rfl e2 rfl dX6_forgetFrom_23 ?_
          refine pw_iload_n (i := 2) C dX6_forgetFrom_26 rfl rfl ?_
          have g_103 := hS.rL (k - 1)
          refine pw_lald C e3 ⟨by omega, by omega, by omega⟩ dX6_forgetFrom_27 ?_
          refine pw_aload_n (i := 0) C dX6_forgetFrom_28 rfl rfl (Or.inr ⟨_, rfl⟩) ?_
          refine pw_get (j := 1) C cl_X6 fl_X6_15 (by decide) rfl e2 rfl dX6_forgetFrom_29 ?_
          refine pw_iload_n (i := 2) C dX6_forgetFrom_32 rfl rfl ?_
          have g_104 := (hS.rI 1 (by decide)) (k - 1)
          refine pw_iald C e4 ⟨by omega, by omega, by omega⟩ dX6_forgetFrom_33 ?_
          refine pw_callS (As := [.long (lZ ((σ 0) (k - 1))), .int (iZ ((σ 1) (k - 1)))]) (st := [.ref ((w 7).1)]) C (m_X6_bucketOf g l (x := (σ 0) (k - 1)) (y := (σ 1) (k - 1)) (by omega)) my_X6_bucketOf ml_X6_94 rfl ⟨by decide, by decide⟩ ⟨Nat.le_of_ble_eq_true rfl, Nat.le_of_ble_eq_true rfl⟩ rfl (Nat.le_of_ble_eq_true rfl) dX6_forgetFrom_34 ?_
          rintro _ _ ⟨rfl, rfl⟩
          refine pw_stk (st' := [.int (iZ (bkt ((σ 0) (k - 1)) ((σ 1) (k - 1)))), .ref ((w 7).1)]) rfl ?_
          have b_105 := bkt_in ((σ 0) (k - 1)) ((σ 1) (k - 1))
          refine pw_aload_n (i := 0) C dX6_forgetFrom_37 rfl rfl (Or.inr ⟨_, rfl⟩) ?_
          refine pw_get (j := 3) C cl_X6 fl_X6_22 (by decide) rfl e2 rfl dX6_forgetFrom_38 ?_
          refine pw_iload_n (i := 2) C dX6_forgetFrom_41 rfl rfl ?_
          have g_106 := (hS.rI 3 (by decide)) (k - 1)
          refine pw_iald C e6 ⟨by omega, by omega, by omega⟩ dX6_forgetFrom_42 ?_
          refine pw_iast C e7 ⟨by omega, by omega, by omega⟩ dX6_forgetFrom_43 (fun w_109 k_107 o_108 => ?_)
          refine pw_aload_n (i := 0) C dX6_forgetFrom_44 rfl rfl (Or.inr ⟨_, rfl⟩) ?_
          refine pw_iload_n (i := 2) C dX6_forgetFrom_45 rfl rfl ?_
          have c_110 := (o_108 2 (by decide)).trans e2
          refine pw_put (j := 5) C cl_X6 fl_X6_67 (by decide) rfl rfl rfl rfl rfl c_110 (Nat.le_of_ble_eq_true rfl) dX6_forgetFrom_46 (fun w_113 k_111 o_112 => ?_)
          have k_114 : w_113 2 = ((w 2).1, some (OB 6 [.ref ((w 3).1), .ref ((w 4).1), .ref ((w 5).1), .ref ((w 6).1), .ref ((w 7).1), .int (iZ (k - 1))])) := k_111
          refine pw_iinc (lv' := [(0, .ref ((w 2).1)), (1, .int (iZ q)), (2, .int (iZ ((k - 1) + (-1))))]) C dX6_forgetFrom_49 rfl (by decide) rfl ?_
          refine pw_goto (tgt := 7) C dX6_forgetFrom_52 (by decide) ?_
          have c_115 := ((o_112 3 (by decide)).trans (o_108 3 (by decide))).trans e3
          have c_116 := ((o_112 4 (by decide)).trans (o_108 4 (by decide))).trans e4
          have c_117 := ((o_112 5 (by decide)).trans (o_108 5 (by decide))).trans e5
          have c_118 := ((o_112 6 (by decide)).trans (o_108 6 (by decide))).trans e6
          have c_119 := (o_112 7 (by decide)).trans k_107
          exact ih (k - 1) w_113 _ (by omega) (by omega) k_114 c_115 c_116 c_117 c_118 c_119 (upz_inI r4 (hS.rI 3 (by decide) _)) (sC_pop hc1 (by omega)) (fun j hj => ((o_112 j (by omega)).trans (o_108 j (by omega))).trans (ho j hj))
  refine pw_aload_n (i := 0) C dX6_forgetFrom_0 rfl rfl (Or.inr ⟨_, rfl⟩) ?_
  refine pw_get (j := 5) C cl_X6 fl_X6_67 (by decide) rfl hS.1 rfl dX6_forgetFrom_1 ?_
  refine pw_iconst C dX6_forgetFrom_4 ?_
  refine pw_isub C dX6_forgetFrom_5 ?_
  refine pw_istore_n (i := 2) (lv' := [(0, .ref ((w 2).1)), (1, .int (iZ q)), (2, .int (iZ (n - 1)))]) C dX6_forgetFrom_6 rfl (by decide) rfl ?_
  exact loop (n - q).toNat n w (σ 4) (by omega) (by omega) hS.1 hS.2.1 hS.2.2.1 hS.2.2.2.1 hS.2.2.2.2.1 hS.2.2.2.2.2.1 (hS.rI 4 (by decide)) (sC_eta hC) (fun _ _ => rfl)

/-- the room that is made for x objects -/
def rmZ (x : Int) : Int := if x ≤ 2048 then 2048 else if x ≤ 4096 then 4096 else if x ≤ 8192 then 8192 else 16384
theorem rmZ_in (x : Int) : 2048 ≤ rmZ x ∧ rmZ x ≤ 16384 := by unfold rmZ; split <;> (try split) <;> (try split) <;> omega
theorem pw_sameRoom {g : pw_P} {p : Program} {l : Launch} {e : Env} {R : Room} {s : State} {m : MethodId} {args : Array Value} {below : List Frame} {meth : Method} {c : Code} {nL : Nat} {Q : State → Prop} {cells slots pc : Nat} {lv : List (Nat × Value)} {st : List Value} {w : pw_W} {z z' : Int} {i : Nat} (h : z = z') (k : pw_G g p l e R s m args below meth c nL Q cells slots pc (lv ++ [(i, .int (iZ z'))]) st w) : pw_G g p l e R s m args below meth c nL Q cells slots pc (lv ++ [(i, .int (iZ z))]) st w := h ▸ k
set_option maxRecDepth 100000 in
set_option maxHeartbeats 4000000 in
/-- makeRoom, the room is there -/
theorem m_X6_makeRoom (g : pw_P) (l : Launch) {w : pw_W} {cap : Nat} {σ : Nat → Int → Int} {n x : Int} (hS : St g w cap σ n) (hx : 0 ≤ x ∧ x < 1000000) (hg : rmZ (n + x) ≤ cap) : pw_M g l yX6_makeRoom cX6_makeRoom 3 (some .boolean) { frames := 2, cells := 0, slots := 0, locals := 100 } [.ref (w 2).1, .int (iZ x)] w (fun r w' => w = w' ∧ r = some (.int (iZ (b2i (decide (n + x ≤ cap)))))) := by
  refine pw_M.of (by decide) (Nat.le_of_ble_eq_true rfl) rfl ?_
  intro p e s m args below meth c C hr hn
  have hN := hS.rN
  have tail : ∀ q : Int, q = rmZ (n + x) → pw_G g p l e { frames := 2, cells := 0, slots := 0, locals := 100 } s m args below meth c 3 (pw_Q g below (fun r w' => w = w' ∧ r = some (.int (iZ (b2i (decide (n + x ≤ cap)))))) args s { frames := 2, cells := 0, slots := 0, locals := 100 }) 0 0 28 [(0, .ref ((w 2).1)), (1, .int (iZ x)), (2, .int (iZ q))] [] w := by
    intro q hq
    have hrN := rmZ_in (n + x)
    refine pw_iload_n (i := 2) C dX6_makeRoom_28 rfl rfl ?_
    refine pw_aload_n (i := 0) C dX6_makeRoom_29 rfl rfl (Or.inr ⟨_, rfl⟩) ?_
    refine pw_get (j := 1) C cl_X6 fl_X6_15 (by decide) rfl hS.1 rfl dX6_makeRoom_30 ?_
    refine pw_alen (t := 0) C hS.2.2.1 rfl dX6_makeRoom_33 ?_
    refine pw_icmp_le (tgt := 85) C (by omega) (by omega) dX6_makeRoom_34 (by decide) (fun h_401 => ?_) (fun h_401 => ?_)
    · refine pw_aload_n (i := 0) C dX6_makeRoom_85 rfl rfl (Or.inr ⟨_, rfl⟩) ?_
      refine pw_get (j := 1) C cl_X6 fl_X6_15 (by decide) rfl hS.1 rfl dX6_makeRoom_86 ?_
      refine pw_alen (t := 0) C hS.2.2.1 rfl dX6_makeRoom_89 ?_
      refine pw_aload_n (i := 0) C dX6_makeRoom_90 rfl rfl (Or.inr ⟨_, rfl⟩) ?_
      refine pw_get (j := 5) C cl_X6 fl_X6_67 (by decide) rfl hS.1 rfl dX6_makeRoom_91 ?_
      refine pw_iload_n (i := 1) C dX6_makeRoom_94 rfl rfl ?_
      refine pw_iadd C dX6_makeRoom_95 ?_
      refine pw_icmp_lt (tgt := 103) C (by omega) (by omega) dX6_makeRoom_96 (by decide) (fun h_402 => ?_) (fun h_402 => ?_)
      · refine pw_iconst C dX6_makeRoom_103 ?_
        exact pw_zret C hr (by decide +kernel) dX6_makeRoom_104 ⟨rfl, by rw [show decide (n + x ≤ cap) = false by simp; omega]; rfl⟩
      · refine pw_iconst C dX6_makeRoom_99 ?_
        refine pw_goto (tgt := 104) C dX6_makeRoom_100 (by decide) ?_
        exact pw_zret C hr (by decide +kernel) dX6_makeRoom_104 ⟨rfl, by rw [show decide (n + x ≤ cap) = true by simp; omega]; rfl⟩
    · exfalso; omega
  refine pw_sipush C dX6_makeRoom_0 (by decide) ?_
  refine pw_istore_n (i := 2) (lv' := [(0, .ref ((w 2).1)), (1, .int (iZ x)), (2, .int (iZ 2048))]) C dX6_makeRoom_3 rfl (by decide) rfl ?_
  refine pw_iload_n (i := 2) C dX6_makeRoom_4 rfl rfl ?_
  refine pw_aload_n (i := 0) C dX6_makeRoom_5 rfl rfl (Or.inr ⟨_, rfl⟩) ?_
  refine pw_get (j := 5) C cl_X6 fl_X6_67 (by decide) rfl hS.1 rfl dX6_makeRoom_6 ?_
  refine pw_iload_n (i := 1) C dX6_makeRoom_9 rfl rfl ?_
  refine pw_iadd C dX6_makeRoom_10 ?_
  refine pw_icmp_ge (tgt := 28) C (by omega) (by omega) dX6_makeRoom_11 (by decide) (fun h_701 => ?_) (fun h_701 => ?_)
  · exact tail _ (by unfold rmZ; split <;> omega)
  · refine pw_iload_n (i := 2) C dX6_makeRoom_14 rfl rfl ?_
    refine pw_sipush C dX6_makeRoom_15 (by decide) ?_
    refine pw_icmp_ge (tgt := 28) C (by omega) (by omega) dX6_makeRoom_18 (by decide) (fun h_702 => ?_) (fun h_702 => ?_)
    · exfalso; omega
    · refine pw_iload_n (i := 2) C dX6_makeRoom_21 rfl rfl ?_
      refine pw_iconst C dX6_makeRoom_22 ?_
      refine pw_imul C dX6_makeRoom_23 ?_
      refine pw_istore_n (i := 2) (lv' := [(0, .ref ((w 2).1)), (1, .int (iZ x)), (2, .int (iZ (2048 * 2)))]) C dX6_makeRoom_24 rfl (by decide) rfl ?_
      refine pw_goto (tgt := 4) C dX6_makeRoom_25 (by decide) ?_
      refine pw_iload_n (i := 2) C dX6_makeRoom_4 rfl rfl ?_
      refine pw_aload_n (i := 0) C dX6_makeRoom_5 rfl rfl (Or.inr ⟨_, rfl⟩) ?_
      refine pw_get (j := 5) C cl_X6 fl_X6_67 (by decide) rfl hS.1 rfl dX6_makeRoom_6 ?_
      refine pw_iload_n (i := 1) C dX6_makeRoom_9 rfl rfl ?_
      refine pw_iadd C dX6_makeRoom_10 ?_
      refine pw_icmp_ge (tgt := 28) C (by omega) (by omega) dX6_makeRoom_11 (by decide) (fun h_703 => ?_) (fun h_703 => ?_)
      · exact tail _ (by unfold rmZ; split <;> omega)
      · refine pw_iload_n (i := 2) C dX6_makeRoom_14 rfl rfl ?_
        refine pw_sipush C dX6_makeRoom_15 (by decide) ?_
        refine pw_icmp_ge (tgt := 28) C (by omega) (by omega) dX6_makeRoom_18 (by decide) (fun h_704 => ?_) (fun h_704 => ?_)
        · exfalso; omega
        · refine pw_iload_n (i := 2) C dX6_makeRoom_21 rfl rfl ?_
          refine pw_iconst C dX6_makeRoom_22 ?_
          refine pw_imul C dX6_makeRoom_23 ?_
          refine pw_istore_n (i := 2) (lv' := [(0, .ref ((w 2).1)), (1, .int (iZ x)), (2, .int (iZ ((2048 * 2) * 2)))]) C dX6_makeRoom_24 rfl (by decide) rfl ?_
          refine pw_goto (tgt := 4) C dX6_makeRoom_25 (by decide) ?_
          refine pw_iload_n (i := 2) C dX6_makeRoom_4 rfl rfl ?_
          refine pw_aload_n (i := 0) C dX6_makeRoom_5 rfl rfl (Or.inr ⟨_, rfl⟩) ?_
          refine pw_get (j := 5) C cl_X6 fl_X6_67 (by decide) rfl hS.1 rfl dX6_makeRoom_6 ?_
          refine pw_iload_n (i := 1) C dX6_makeRoom_9 rfl rfl ?_
          refine pw_iadd C dX6_makeRoom_10 ?_
          refine pw_icmp_ge (tgt := 28) C (by omega) (by omega) dX6_makeRoom_11 (by decide) (fun h_705 => ?_) (fun h_705 => ?_)
          · exact tail _ (by unfold rmZ; split <;> omega)
          · refine pw_iload_n (i := 2) C dX6_makeRoom_14 rfl rfl ?_
            refine pw_sipush C dX6_makeRoom_15 (by decide) ?_
            refine pw_icmp_ge (tgt := 28) C (by omega) (by omega) dX6_makeRoom_18 (by decide) (fun h_706 => ?_) (fun h_706 => ?_)
            · exfalso; omega
            · refine pw_iload_n (i := 2) C dX6_makeRoom_21 rfl rfl ?_
              refine pw_iconst C dX6_makeRoom_22 ?_
              refine pw_imul C dX6_makeRoom_23 ?_
              refine pw_istore_n (i := 2) (lv' := [(0, .ref ((w 2).1)), (1, .int (iZ x)), (2, .int (iZ (((2048 * 2) * 2) * 2)))]) C dX6_makeRoom_24 rfl (by decide) rfl ?_
              refine pw_goto (tgt := 4) C dX6_makeRoom_25 (by decide) ?_
              refine pw_iload_n (i := 2) C dX6_makeRoom_4 rfl rfl ?_
              refine pw_aload_n (i := 0) C dX6_makeRoom_5 rfl rfl (Or.inr ⟨_, rfl⟩) ?_
              refine pw_get (j := 5) C cl_X6 fl_X6_67 (by decide) rfl hS.1 rfl dX6_makeRoom_6 ?_
              refine pw_iload_n (i := 1) C dX6_makeRoom_9 rfl rfl ?_
              refine pw_iadd C dX6_makeRoom_10 ?_
              refine pw_icmp_ge (tgt := 28) C (by omega) (by omega) dX6_makeRoom_11 (by decide) (fun h_707 => ?_) (fun h_707 => ?_)
              · exact tail _ (by unfold rmZ; split <;> omega)
              · refine pw_iload_n (i := 2) C dX6_makeRoom_14 rfl rfl ?_
                refine pw_sipush C dX6_makeRoom_15 (by decide) ?_
                refine pw_icmp_ge (tgt := 28) C (by omega) (by omega) dX6_makeRoom_18 (by decide) (fun h_708 => ?_) (fun h_708 => ?_)
                · exact tail _ (by unfold rmZ; split <;> omega)
                · exfalso; omega

theorem cpyZ_inI {f : Int → Int} {n : Int} (h : ∀ j, inI (f j)) : ∀ j, inI (cpyZ f (fun _ => 0) n j) := fun j => by unfold cpyZ; split <;> first | exact h j | exact (show inI 0 from ⟨by decide, by decide⟩)
theorem cpyZ_inL {f : Int → Int} {n : Int} (h : ∀ j, inL (f j)) : ∀ j, inL (cpyZ f (fun _ => 0) n j) := fun j => by unfold cpyZ; split <;> first | exact h j | exact (show inL 0 from ⟨by decide, by decide⟩)
set_option maxRecDepth 100000 in
set_option maxHeartbeats 4000000 in
/-- makeRoom, the room grows -/
theorem m_X6_makeRoom_grow (g : pw_P) (l : Launch) {w : pw_W} {cap : Nat} {σ : Nat → Int → Int} {n x : Int} (hS : St g w cap σ n) (hx : 0 ≤ x ∧ x < 1000000) {N : Nat} (hg : cap < rmZ (n + x)) (hNz : (N : Int) = rmZ (n + x)) (hT : ∀ k, 83 ≤ k ∧ k ≤ 86 → (w k).2 = none) : pw_M g l yX6_makeRoom cX6_makeRoom 3 (some .boolean) { frames := 2, cells := 4, slots := (4 * N), locals := 100 } [.ref (w 2).1, .int (iZ x)] w (fun r w' => r = some (.int (iZ (b2i (decide (n + x ≤ N))))) ∧ St g w' N (sM (cpyZ (σ 0) (fun _ => 0) cap) (cpyZ (σ 1) (fun _ => 0) cap) (cpyZ (σ 2) (fun _ => 0) cap) (cpyZ (σ 3) (fun _ => 0) cap) (σ 4)) n ∧ (w' 2).1 = (w 2).1 ∧ ∀ k, (k < 2 ∨ 7 < k) → w' k = w k) := by
  refine pw_M.of (by decide) (Nat.le_of_ble_eq_true rfl) rfl ?_
  intro p e s m args below meth c C hr hn
  have hN := hS.rN
  have tail : ∀ q : Int, q = rmZ (n + x) → pw_G g p l e { frames := 2, cells := 4, slots := (4 * N), locals := 100 } s m args below meth c 3 (pw_Q g below (fun r w' => r = some (.int (iZ (b2i (decide (n + x ≤ N))))) ∧ St g w' N (sM (cpyZ (σ 0) (fun _ => 0) cap) (cpyZ (σ 1) (fun _ => 0) cap) (cpyZ (σ 2) (fun _ => 0) cap) (cpyZ (σ 3) (fun _ => 0) cap) (σ 4)) n ∧ (w' 2).1 = (w 2).1 ∧ ∀ k, (k < 2 ∨ 7 < k) → w' k = w k) args s { frames := 2, cells := 4, slots := (4 * N), locals := 100 }) 0 0 28 [(0, .ref ((w 2).1)), (1, .int (iZ x)), (2, .int (iZ q))] [] w := by
    intro q hq
    have hrN := rmZ_in (n + x)
    refine pw_iload_n (i := 2) C dX6_makeRoom_28 rfl rfl ?_
    refine pw_aload_n (i := 0) C dX6_makeRoom_29 rfl rfl (Or.inr ⟨_, rfl⟩) ?_
    refine pw_get (j := 1) C cl_X6 fl_X6_15 (by decide) rfl hS.1 rfl dX6_makeRoom_30 ?_
    refine pw_alen (t := 0) C hS.2.2.1 rfl dX6_makeRoom_33 ?_
    refine pw_icmp_le (tgt := 85) C (by omega) (by omega) dX6_makeRoom_34 (by decide) (fun h_401 => ?_) (fun h_401 => ?_)
    · exfalso; omega
    · refine pw_aload_n (i := 0) C dX6_makeRoom_37 rfl rfl (Or.inr ⟨_, rfl⟩) ?_
      refine pw_aload_n (i := 0) C dX6_makeRoom_38 rfl rfl (Or.inr ⟨_, rfl⟩) ?_
      refine pw_get (j := 0) C cl_X6 fl_X6_11 (by decide) rfl hS.1 rfl dX6_makeRoom_39 ?_
      refine pw_iload_n (i := 2) C dX6_makeRoom_42 rfl rfl ?_
      refine pw_callS (As := [.ref ((w 3).1), .int (iZ q)]) (st := [.ref ((w 2).1)]) C (m_J7_copyOf_c38d5 g l (k := 3) (d := 83) (n := cap) (N := N) (x := q) hS.2.1 (by decide) (by omega) (by omega) (by omega)) my_J7_copyOf_c38d5 ml_X6_87 rfl ⟨Nat.le_of_ble_eq_true rfl, Nat.le_of_ble_eq_true rfl⟩ ⟨Nat.le_of_ble_eq_true rfl, by show 0 + N ≤ 4 * N; omega⟩ rfl (Nat.le_of_ble_eq_true rfl) dX6_makeRoom_43 ?_
      rintro _ w_402 ⟨a_403, rfl, k_404, o_405⟩
      refine pw_stk (st' := [.ref a_403, .ref ((w 2).1)]) rfl ?_
      have c_406 := (o_405 2 (by decide)).trans hS.1
      refine pw_put (j := 0) C cl_X6 fl_X6_11 (by decide) rfl rfl rfl rfl rfl c_406 (Nat.le_of_ble_eq_true rfl) dX6_makeRoom_46 (fun w_409 k_407 o_408 => ?_)
      have k_410 : w_409 2 = ((w 2).1, some (OB 6 [.ref a_403, .ref ((w 4).1), .ref ((w 5).1), .ref ((w 6).1), .ref ((w 7).1), .int (iZ n)])) := k_407
      refine pw_aload_n (i := 0) C dX6_makeRoom_49 rfl rfl (Or.inr ⟨_, rfl⟩) ?_
      refine pw_aload_n (i := 0) C dX6_makeRoom_50 rfl rfl (Or.inr ⟨_, rfl⟩) ?_
      refine pw_get (j := 1) C cl_X6 fl_X6_15 (by decide) rfl k_410 rfl dX6_makeRoom_51 ?_
      refine pw_iload_n (i := 2) C dX6_makeRoom_54 rfl rfl ?_
      have c_411 := ((o_408 4 (by decide)).trans (o_405 4 (by decide))).trans hS.2.2.1
      refine pw_callS (As := [.ref ((w 4).1), .int (iZ q)]) (st := [.ref ((w 2).1)]) C (m_J7_copyOf_59c91 g l (k := 4) (d := 84) (n := cap) (N := N) (x := q) c_411 (by decide) (by omega) (by omega) (by omega)) my_J7_copyOf_59c91 ml_X6_91 rfl ⟨Nat.le_of_ble_eq_true rfl, Nat.le_of_ble_eq_true rfl⟩ ⟨Nat.le_of_ble_eq_true rfl, by show 0+ N  + N ≤ 4 * N; omega⟩ rfl (Nat.le_of_ble_eq_true rfl) dX6_makeRoom_55 ?_
      rintro _ w_412 ⟨a_413, rfl, k_414, o_415⟩
      refine pw_stk (st' := [.ref a_413, .ref ((w 2).1)]) rfl ?_
      have c_416 := (o_415 2 (by decide)).trans k_410
      refine pw_put (j := 1) C cl_X6 fl_X6_15 (by decide) rfl rfl rfl rfl rfl c_416 (Nat.le_of_ble_eq_true rfl) dX6_makeRoom_58 (fun w_419 k_417 o_418 => ?_)
      have k_420 : w_419 2 = ((w 2).1, some (OB 6 [.ref a_403, .ref a_413, .ref ((w 5).1), .ref ((w 6).1), .ref ((w 7).1), .int (iZ n)])) := k_417
      refine pw_aload_n (i := 0) C dX6_makeRoom_61 rfl rfl (Or.inr ⟨_, rfl⟩) ?_
      refine pw_aload_n (i := 0) C dX6_makeRoom_62 rfl rfl (Or.inr ⟨_, rfl⟩) ?_
      refine pw_get (j := 2) C cl_X6 fl_X6_19 (by decide) rfl k_420 rfl dX6_makeRoom_63 ?_
      refine pw_iload_n (i := 2) C dX6_makeRoom_66 rfl rfl ?_
      have c_421 := ((o_418 5 (by decide)).trans ((o_415 5 (by decide)).trans ((o_408 5 (by decide)).trans (o_405 5 (by decide))))).trans hS.2.2.2.1
      refine pw_callS (As := [.ref ((w 5).1), .int (iZ q)]) (st := [.ref ((w 2).1)]) C (m_J7_copyOf_59c91 g l (k := 5) (d := 85) (n := cap) (N := N) (x := q) c_421 (by decide) (by omega) (by omega) (by omega)) my_J7_copyOf_59c91 ml_X6_91 rfl ⟨Nat.le_of_ble_eq_true rfl, Nat.le_of_ble_eq_true rfl⟩ ⟨Nat.le_of_ble_eq_true rfl, by show 0+ N + N  + N ≤ 4 * N; omega⟩ rfl (Nat.le_of_ble_eq_true rfl) dX6_makeRoom_67 ?_
      rintro _ w_422 ⟨a_423, rfl, k_424, o_425⟩
      refine pw_stk (st' := [.ref a_423, .ref ((w 2).1)]) rfl ?_
      have c_426 := (o_425 2 (by decide)).trans k_420
      refine pw_put (j := 2) C cl_X6 fl_X6_19 (by decide) rfl rfl rfl rfl rfl c_426 (Nat.le_of_ble_eq_true rfl) dX6_makeRoom_70 (fun w_429 k_427 o_428 => ?_)
      have k_430 : w_429 2 = ((w 2).1, some (OB 6 [.ref a_403, .ref a_413, .ref a_423, .ref ((w 6).1), .ref ((w 7).1), .int (iZ n)])) := k_427
      refine pw_aload_n (i := 0) C dX6_makeRoom_73 rfl rfl (Or.inr ⟨_, rfl⟩) ?_
      refine pw_aload_n (i := 0) C dX6_makeRoom_74 rfl rfl (Or.inr ⟨_, rfl⟩) ?_
      refine pw_get (j := 3) C cl_X6 fl_X6_22 (by decide) rfl k_430 rfl dX6_makeRoom_75 ?_
      refine pw_iload_n (i := 2) C dX6_makeRoom_78 rfl rfl ?_
      have c_431 := ((o_428 6 (by decide)).trans ((o_425 6 (by decide)).trans ((o_418 6 (by decide)).trans ((o_415 6 (by decide)).trans ((o_408 6 (by decide)).trans (o_405 6 (by decide))))))).trans hS.2.2.2.2.1
      refine pw_callS (As := [.ref ((w 6).1), .int (iZ q)]) (st := [.ref ((w 2).1)]) C (m_J7_copyOf_59c91 g l (k := 6) (d := 86) (n := cap) (N := N) (x := q) c_431 (by decide) (by omega) (by omega) (by omega)) my_J7_copyOf_59c91 ml_X6_91 rfl ⟨Nat.le_of_ble_eq_true rfl, Nat.le_of_ble_eq_true rfl⟩ ⟨Nat.le_of_ble_eq_true rfl, by show 0+ N + N + N  + N ≤ 4 * N; omega⟩ rfl (Nat.le_of_ble_eq_true rfl) dX6_makeRoom_79 ?_
      rintro _ w_432 ⟨a_433, rfl, k_434, o_435⟩
      refine pw_stk (st' := [.ref a_433, .ref ((w 2).1)]) rfl ?_
      have c_436 := (o_435 2 (by decide)).trans k_430
      refine pw_put (j := 3) C cl_X6 fl_X6_22 (by decide) rfl rfl rfl rfl rfl c_436 (Nat.le_of_ble_eq_true rfl) dX6_makeRoom_82 (fun w_439 k_437 o_438 => ?_)
      have k_440 : w_439 2 = ((w 2).1, some (OB 6 [.ref a_403, .ref a_413, .ref a_423, .ref a_433, .ref ((w 7).1), .int (iZ n)])) := k_437
      have c_441 := ((o_438 3 (by decide)).trans ((o_435 3 (by decide)).trans ((o_428 3 (by decide)).trans ((o_425 3 (by decide)).trans ((o_418 3 (by decide)).trans ((o_415 3 (by decide)).trans ((o_408 3 (by decide)).trans (o_405 3 (by decide))))))))).trans hS.2.1
      have c_442 := ((o_438 4 (by decide)).trans ((o_435 4 (by decide)).trans ((o_428 4 (by decide)).trans ((o_425 4 (by decide)).trans ((o_418 4 (by decide)).trans (o_415 4 (by decide))))))).trans c_411
      have c_443 := ((o_438 5 (by decide)).trans ((o_435 5 (by decide)).trans ((o_428 5 (by decide)).trans (o_425 5 (by decide))))).trans c_421
      have c_444 := ((o_438 6 (by decide)).trans (o_435 6 (by decide))).trans c_431
      have c_445 := ((o_438 7 (by decide)).trans ((o_435 7 (by decide)).trans ((o_428 7 (by decide)).trans ((o_425 7 (by decide)).trans ((o_418 7 (by decide)).trans ((o_415 7 (by decide)).trans ((o_408 7 (by decide)).trans (o_405 7 (by decide))))))))).trans hS.2.2.2.2.2.1
      have c_446 := ((o_438 83 (by decide)).trans ((o_435 83 (by decide)).trans ((o_428 83 (by decide)).trans ((o_425 83 (by decide)).trans ((o_418 83 (by decide)).trans ((o_415 83 (by decide)).trans (o_408 83 (by decide)))))))).trans k_404
      have c_447 := ((o_438 84 (by decide)).trans ((o_435 84 (by decide)).trans ((o_428 84 (by decide)).trans ((o_425 84 (by decide)).trans (o_418 84 (by decide)))))).trans k_414
      have c_448 := ((o_438 85 (by decide)).trans ((o_435 85 (by decide)).trans (o_428 85 (by decide)))).trans k_424
      have c_449 := (o_438 86 (by decide)).trans k_434
      refine pw_ren (w2 := fun k => if k = 3 then w_439 83 else if k = 4 then w_439 84 else if k = 5 then w_439 85 else if k = 6 then w_439 86 else if 83 ≤ k ∧ k ≤ 86 then w k else w_439 k) (fun k => if k = 3 then 83 else if k = 4 then 84 else if k = 5 then 85 else if k = 6 then 86 else k) ?_ ?_ ?_
      · intro i e hi
        by_cases h3 : i = 3
        · simp [h3]
        by_cases h4 : i = 4
        · simp [h4]
        by_cases h5 : i = 5
        · simp [h5]
        by_cases h6 : i = 6
        · simp [h6]
        by_cases h8 : 83 ≤ i ∧ i ≤ 86
        · simp [h3, h4, h5, h6, h8, hT i h8] at hi
        · simp [h3, h4, h5, h6, h8]
      · intro i j e f hi hj hij
        have ki : ¬ (83 ≤ i ∧ i ≤ 86) := fun h8 => by simp [show i ≠ 3 by omega, show i ≠ 4 by omega, show i ≠ 5 by omega, show i ≠ 6 by omega, h8, hT i h8] at hi
        have kj : ¬ (83 ≤ j ∧ j ≤ 86) := fun h8 => by simp [show j ≠ 3 by omega, show j ≠ 4 by omega, show j ≠ 5 by omega, show j ≠ 6 by omega, h8, hT j h8] at hj
        try dsimp only at hij
        split at hij <;> (try split at hij) <;> (try split at hij) <;> (try split at hij) <;> (try split at hij) <;> (try split at hij) <;> (try split at hij) <;> (try split at hij) <;> omega
      generalize hw2 : (fun k => if k = 3 then w_439 83 else if k = 4 then w_439 84 else if k = 5 then w_439 85 else if k = 6 then w_439 86 else if 83 ≤ k ∧ k ≤ 86 then w k else w_439 k) = w2
      have f2 : w2 2 = w_439 2 := by rw [← hw2]; simp
      have f3 : w2 3 = w_439 83 := by rw [← hw2]; simp
      have f4 : w2 4 = w_439 84 := by rw [← hw2]; simp
      have f5 : w2 5 = w_439 85 := by rw [← hw2]; simp
      have f6 : w2 6 = w_439 86 := by rw [← hw2]; simp
      have f7 : w2 7 = w_439 7 := by rw [← hw2]; simp
      have ff : ∀ k, (k < 2 ∨ 7 < k) → w2 k = w k := fun k hk => by rw [← hw2]; by_cases h8 : 83 ≤ k ∧ k ≤ 86 <;> simp only [show k ≠ 3 by omega, show k ≠ 4 by omega, show k ≠ 5 by omega, show k ≠ 6 by omega, if_false, h8, if_true, and_self]; exact (o_438 k (by omega)).trans ((o_435 k (by omega)).trans ((o_428 k (by omega)).trans ((o_425 k (by omega)).trans ((o_418 k (by omega)).trans ((o_415 k (by omega)).trans ((o_408 k (by omega)).trans (o_405 k (by omega))))))))
      have g2 := f2.trans k_440
      have g3 := f3.trans c_446
      have g4 := f4.trans c_447
      have g5 := f5.trans c_448
      have g6 := f6.trans c_449
      have g7 := f7.trans c_445
      refine pw_aload_n (i := 0) C dX6_makeRoom_85 rfl rfl (Or.inr ⟨_, rfl⟩) ?_
      refine pw_get (j := 1) C cl_X6 fl_X6_15 (by decide) rfl g2 rfl dX6_makeRoom_86 ?_
      refine pw_alen (t := 0) C g4 rfl dX6_makeRoom_89 ?_
      refine pw_aload_n (i := 0) C dX6_makeRoom_90 rfl rfl (Or.inr ⟨_, rfl⟩) ?_
      refine pw_get (j := 5) C cl_X6 fl_X6_67 (by decide) rfl g2 rfl dX6_makeRoom_91 ?_
      refine pw_iload_n (i := 1) C dX6_makeRoom_94 rfl rfl ?_
      refine pw_iadd C dX6_makeRoom_95 ?_
      refine pw_icmp_lt (tgt := 103) C (by omega) (by omega) dX6_makeRoom_96 (by decide) (fun h_450 => ?_) (fun h_450 => ?_)
      · refine pw_iconst C dX6_makeRoom_103 ?_
        refine pw_wide 4 (4 * N) (Nat.le_of_ble_eq_true rfl) (by show 0 + N + N + N + N ≤ 4 * N; omega) ?_
        exact pw_zret C hr (by decide +kernel) dX6_makeRoom_104 ⟨by rw [show decide (n + x ≤ N) = false by simp; omega]; rfl, St.mk' g2 g3 g4 g5 g6 g7 (by omega) (cpyZ_inL hS.rL) (cpyZ_inI (hS.rI 1 (by decide))) (cpyZ_inI (hS.rI 2 (by decide))) (cpyZ_inI (hS.rI 3 (by decide))) (hS.rI 4 (by decide)), by rw [g2], ff⟩
      · refine pw_iconst C dX6_makeRoom_99 ?_
        refine pw_goto (tgt := 104) C dX6_makeRoom_100 (by decide) ?_
        refine pw_wide 4 (4 * N) (Nat.le_of_ble_eq_true rfl) (by show 0 + N + N + N + N ≤ 4 * N; omega) ?_
        exact pw_zret C hr (by decide +kernel) dX6_makeRoom_104 ⟨by rw [show decide (n + x ≤ N) = true by simp; omega]; rfl, St.mk' g2 g3 g4 g5 g6 g7 (by omega) (cpyZ_inL hS.rL) (cpyZ_inI (hS.rI 1 (by decide))) (cpyZ_inI (hS.rI 2 (by decide))) (cpyZ_inI (hS.rI 3 (by decide))) (hS.rI 4 (by decide)), by rw [g2], ff⟩
  refine pw_sipush C dX6_makeRoom_0 (by decide) ?_
  refine pw_istore_n (i := 2) (lv' := [(0, .ref ((w 2).1)), (1, .int (iZ x)), (2, .int (iZ 2048))]) C dX6_makeRoom_3 rfl (by decide) rfl ?_
  refine pw_iload_n (i := 2) C dX6_makeRoom_4 rfl rfl ?_
  refine pw_aload_n (i := 0) C dX6_makeRoom_5 rfl rfl (Or.inr ⟨_, rfl⟩) ?_
  refine pw_get (j := 5) C cl_X6 fl_X6_67 (by decide) rfl hS.1 rfl dX6_makeRoom_6 ?_
  refine pw_iload_n (i := 1) C dX6_makeRoom_9 rfl rfl ?_
  refine pw_iadd C dX6_makeRoom_10 ?_
  refine pw_icmp_ge (tgt := 28) C (by omega) (by omega) dX6_makeRoom_11 (by decide) (fun h_701 => ?_) (fun h_701 => ?_)
  · exact tail _ (by unfold rmZ; split <;> omega)
  · refine pw_iload_n (i := 2) C dX6_makeRoom_14 rfl rfl ?_
    refine pw_sipush C dX6_makeRoom_15 (by decide) ?_
    refine pw_icmp_ge (tgt := 28) C (by omega) (by omega) dX6_makeRoom_18 (by decide) (fun h_702 => ?_) (fun h_702 => ?_)
    · exfalso; omega
    · refine pw_iload_n (i := 2) C dX6_makeRoom_21 rfl rfl ?_
      refine pw_iconst C dX6_makeRoom_22 ?_
      refine pw_imul C dX6_makeRoom_23 ?_
      refine pw_istore_n (i := 2) (lv' := [(0, .ref ((w 2).1)), (1, .int (iZ x)), (2, .int (iZ (2048 * 2)))]) C dX6_makeRoom_24 rfl (by decide) rfl ?_
      refine pw_goto (tgt := 4) C dX6_makeRoom_25 (by decide) ?_
      refine pw_iload_n (i := 2) C dX6_makeRoom_4 rfl rfl ?_
      refine pw_aload_n (i := 0) C dX6_makeRoom_5 rfl rfl (Or.inr ⟨_, rfl⟩) ?_
      refine pw_get (j := 5) C cl_X6 fl_X6_67 (by decide) rfl hS.1 rfl dX6_makeRoom_6 ?_
      refine pw_iload_n (i := 1) C dX6_makeRoom_9 rfl rfl ?_
      refine pw_iadd C dX6_makeRoom_10 ?_
      refine pw_icmp_ge (tgt := 28) C (by omega) (by omega) dX6_makeRoom_11 (by decide) (fun h_703 => ?_) (fun h_703 => ?_)
      · exact tail _ (by unfold rmZ; split <;> omega)
      · refine pw_iload_n (i := 2) C dX6_makeRoom_14 rfl rfl ?_
        refine pw_sipush C dX6_makeRoom_15 (by decide) ?_
        refine pw_icmp_ge (tgt := 28) C (by omega) (by omega) dX6_makeRoom_18 (by decide) (fun h_704 => ?_) (fun h_704 => ?_)
        · exfalso; omega
        · refine pw_iload_n (i := 2) C dX6_makeRoom_21 rfl rfl ?_
          refine pw_iconst C dX6_makeRoom_22 ?_
          refine pw_imul C dX6_makeRoom_23 ?_
          refine pw_istore_n (i := 2) (lv' := [(0, .ref ((w 2).1)), (1, .int (iZ x)), (2, .int (iZ ((2048 * 2) * 2)))]) C dX6_makeRoom_24 rfl (by decide) rfl ?_
          refine pw_goto (tgt := 4) C dX6_makeRoom_25 (by decide) ?_
          refine pw_iload_n (i := 2) C dX6_makeRoom_4 rfl rfl ?_
          refine pw_aload_n (i := 0) C dX6_makeRoom_5 rfl rfl (Or.inr ⟨_, rfl⟩) ?_
          refine pw_get (j := 5) C cl_X6 fl_X6_67 (by decide) rfl hS.1 rfl dX6_makeRoom_6 ?_
          refine pw_iload_n (i := 1) C dX6_makeRoom_9 rfl rfl ?_
          refine pw_iadd C dX6_makeRoom_10 ?_
          refine pw_icmp_ge (tgt := 28) C (by omega) (by omega) dX6_makeRoom_11 (by decide) (fun h_705 => ?_) (fun h_705 => ?_)
          · exact tail _ (by unfold rmZ; split <;> omega)
          · refine pw_iload_n (i := 2) C dX6_makeRoom_14 rfl rfl ?_
            refine pw_sipush C dX6_makeRoom_15 (by decide) ?_
            refine pw_icmp_ge (tgt := 28) C (by omega) (by omega) dX6_makeRoom_18 (by decide) (fun h_706 => ?_) (fun h_706 => ?_)
            · exfalso; omega
            · refine pw_iload_n (i := 2) C dX6_makeRoom_21 rfl rfl ?_
              refine pw_iconst C dX6_makeRoom_22 ?_
              refine pw_imul C dX6_makeRoom_23 ?_
              refine pw_istore_n (i := 2) (lv' := [(0, .ref ((w 2).1)), (1, .int (iZ x)), (2, .int (iZ (((2048 * 2) * 2) * 2)))]) C dX6_makeRoom_24 rfl (by decide) rfl ?_
              refine pw_goto (tgt := 4) C dX6_makeRoom_25 (by decide) ?_
              refine pw_iload_n (i := 2) C dX6_makeRoom_4 rfl rfl ?_
              refine pw_aload_n (i := 0) C dX6_makeRoom_5 rfl rfl (Or.inr ⟨_, rfl⟩) ?_
              refine pw_get (j := 5) C cl_X6 fl_X6_67 (by decide) rfl hS.1 rfl dX6_makeRoom_6 ?_
              refine pw_iload_n (i := 1) C dX6_makeRoom_9 rfl rfl ?_
              refine pw_iadd C dX6_makeRoom_10 ?_
              refine pw_icmp_ge (tgt := 28) C (by omega) (by omega) dX6_makeRoom_11 (by decide) (fun h_707 => ?_) (fun h_707 => ?_)
              · exact tail _ (by unfold rmZ; split <;> omega)
              · refine pw_iload_n (i := 2) C dX6_makeRoom_14 rfl rfl ?_
                refine pw_sipush C dX6_makeRoom_15 (by decide) ?_
                refine pw_icmp_ge (tgt := 28) C (by omega) (by omega) dX6_makeRoom_18 (by decide) (fun h_708 => ?_) (fun h_708 => ?_)
                · exact tail _ (by unfold rmZ; split <;> omega)
                · exfalso; omega

