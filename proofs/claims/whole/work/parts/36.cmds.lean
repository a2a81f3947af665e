set_option maxRecDepth 100000 in
set_option maxHeartbeats 4000000 in
/-- finish, with a fault -/
theorem ev_finishF (g : pw_P) (l : Launch) {A : Nat → Nat} {op fu sp fa bi mv tm vl : Int} {sc : Option Nat} {w : pw_W} (hE : w 18 = (A 18, some (evE A op fu sp fa bi mv tm sc vl))) (hf : 0 < fa ∧ fa < 10) : pw_M g l yX3_finish cX3_finish 3 (some .int) { frames := 0, cells := 0, slots := 0, locals := 0 } [.ref (A 18)] w (fun r w' => w = w' ∧ r = some (.int (iZ (-1)))) := by
  refine pw_M.of (by decide) (Nat.le_of_ble_eq_true rfl) rfl ?_
  intro p e s m args below meth c C hr hn
  refine pw_iconst C dX3_finish_0 ?_
  refine pw_istore_n (i := 1) (lv' := [(0, .ref (A 18)), (1, .int (iZ 0))]) C dX3_finish_1 rfl (by decide) rfl ?_
  refine pw_iload_n (i := 1) C dX3_finish_2 rfl rfl ?_
  refine pw_ldc (z := 1000000) C ki_X3_62 (by decide) dX3_finish_3 ?_
  refine pw_icmp_ge (tgt := 176) C (by omega) (by omega) dX3_finish_5 (by decide) (fun h_1 => ?_) (fun h_1 => ?_)
  · exfalso; omega
  · refine pw_aload_n (i := 0) C dX3_finish_8 rfl rfl (Or.inr ⟨_, rfl⟩) ?_
    refine pw_get (j := 6) C cl_X3 fl_X3_32 (by decide) rfl hE rfl dX3_finish_9 ?_
    refine pw_if_ne (tgt := 176) C (by omega) dX3_finish_12 (by decide) (fun h_2 => ?_) (fun h_2 => ?_)
    · refine pw_iconst C dX3_finish_176 ?_
      exact pw_iret C hr dX3_finish_177 ⟨rfl, rfl⟩
    · exfalso; omega

set_option maxRecDepth 100000 in
set_option maxHeartbeats 4000000 in
/-- map -/
theorem m_X1_map (g : pw_P) (l : Launch) {w : pw_W} {A : Nat → Nat} {cap : Nat} {t : Int → Ob} {n rs kp : Int} (hS : SB g w (A 2) cap t n) (hC : w 20 = (A 20, some (cmE A rs kp))) {D : Nat → Nat} {ds : List Df} {T : List Dn} (hF : FnI g w A D ds) (hD : DsT t n ds T) (hM : TmJ g w A) {fu nk : Nat} (hI : EvI g w A fu 0 0 nk) (hT : TOk T) (hfu : fu ≤ 1000) {z x wd : Int} {N Ls : Ob} (hz : Vl t n z N) (hx : Vl t n x Ls) (hwd : obLen Ls ≤ wd ∧ 0 ≤ wd) (hcap : n + fu + wd ≤ cap) : pw_M g l yX1_map cX1_map 9 (some .int) { frames := 5, cells := 600, slots := 3900, locals := 120 } [.ref (A 20), .int (iZ z), .int (iZ x)] w (fun r w' => CmQ g w w' A D cap t n ds fu rs kp (fu + wd) (mapC T fu nk N Ls) r) := by
  refine pw_M.of (by decide) (Nat.le_of_ble_eq_true rfl) rfl ?_
  intro p e s m args below meth c C hr hn
  have hn0 := hS.n
  have hzr := Vl.rng hS hz
  have hxr := Vl.rng hS hx
  have hxl := obLen_ge Ls
  have hxh := Vl.ht hS hx
  have hxo := obLen_le_ht Ls
  have hnk0 := hI.nk
  refine pw_aload_n (i := 0) C dX1_map_0 rfl rfl (Or.inr ⟨_, rfl⟩) ?_
  refine pw_get (j := 0) C cl_X1 fl_X1_9 (by decide) rfl hC rfl dX1_map_1 ?_
  refine pw_iload_n (i := 2) C dX1_map_4 rfl rfl ?_
  refine pw_callV (As := [.int (iZ x)]) (st := []) C (vr_lengthOf hS hx) my_X6_lengthOf ml_X1_47 (hS.rec C) rfl ⟨Nat.le_of_ble_eq_true rfl, Nat.le_of_ble_eq_true rfl⟩ ⟨Nat.le_of_ble_eq_true rfl, Nat.le_of_ble_eq_true rfl⟩ rfl (Nat.le_of_ble_eq_true rfl) dX1_map_5 ?_
  rintro _ _ ⟨rfl, rfl⟩
  refine pw_stk (st' := [.int (iZ (obLen Ls))]) rfl ?_
  refine pw_istore_n (i := 3) (lv' := [(0, .ref (A 20)), (1, .int (iZ z)), (2, .int (iZ x)), (3, .int (iZ (obLen Ls)))]) C dX1_map_8 rfl (by decide) rfl ?_
  refine pw_aload_n (i := 0) C dX1_map_9 rfl rfl (Or.inr ⟨_, rfl⟩) ?_
  refine pw_iload_n (i := 1) C dX1_map_10 rfl rfl ?_
  refine pw_callV (As := [.int (iZ z)]) (st := []) C (m_X1_isFunctionName g l hS hC hz) my_X1_isFunctionName ml_X1_119 (pw_rec.of C hC cl_X1.1) rfl ⟨Nat.le_of_ble_eq_true rfl, Nat.le_of_ble_eq_true rfl⟩ ⟨Nat.le_of_ble_eq_true rfl, Nat.le_of_ble_eq_true rfl⟩ rfl (Nat.le_of_ble_eq_true rfl) dX1_map_11 ?_
  rintro _ _ ⟨rfl, rfl⟩
  refine pw_stk (st' := [.int (iZ (b2i (isFN N)))]) rfl ?_
  refine pw_if_eqB (tgt := 22) C dX1_map_14 (by decide) (fun h_401 => ?_) (fun h_401 => ?_)
  · refine pw_iconst C dX1_map_22 ?_
    refine pw_wide 600 3900 (by (try dsimp only); omega) (by (try dsimp only); omega) ?_
    refine pw_iret C hr dX1_map_23 ?_
    rw [show mapC T fu nk N Ls = (2, none, 0, 0, nk) from by unfold mapC; rw [if_neg (fun q => by rw [h_401] at q; cases q.1)]]
    exact ⟨t, n, rs, rfl, hS, Ext.rf, by omega, hF, hI, hM, hC, rfl, fun _ _ => rfl⟩
  · have hfn0 := h_401
    refine pw_iload_n (i := 3) C dX1_map_17 rfl rfl ?_
    refine pw_iconst C dX1_map_18 ?_
    refine pw_icmp_ne (tgt := 24) C (by omega) (by omega) dX1_map_19 (by decide) (fun h_402 => ?_) (fun h_402 => ?_)
    · have hfn : isFN N = true ∧ obLen Ls ≠ -1 := ⟨hfn0, by omega⟩
      refine pw_aload_n (i := 0) C dX1_map_24 rfl rfl (Or.inr ⟨_, rfl⟩) ?_
      refine pw_get (j := 1) C cl_X1 fl_X1_15 (by decide) rfl hC rfl dX1_map_25 ?_
      refine pw_iload_n (i := 1) C dX1_map_28 rfl rfl ?_
      refine pw_callV (As := [.int (iZ z)]) (st := []) C (m_X4_find g l hF (x := z) (by omega)) my_X4_find ml_X1_122 (hF.rec C) rfl ⟨Nat.le_of_ble_eq_true rfl, Nat.le_of_ble_eq_true rfl⟩ ⟨Nat.le_of_ble_eq_true rfl, Nat.le_of_ble_eq_true rfl⟩ rfl (Nat.le_of_ble_eq_true rfl) dX1_map_29 ?_
      rintro _ _ ⟨rfl, rfl⟩
      rcases DsT.look hS hz 0 hD with ⟨l1, hdl⟩ | ⟨j0, d, D1, l1, hj, l3, hdl, l5, l6, l7, l8, l9⟩
      · rw [l1]
        refine pw_stk (st' := [.null]) rfl ?_
        refine pw_astore (lv' := [(0, .ref (A 20)), (1, .int (iZ z)), (2, .int (iZ x)), (3, .int (iZ (obLen Ls))), (4, .null)]) C dX1_map_32 (by decide) (Or.inl rfl) rfl ?_
        refine pw_aload C dX1_map_34 rfl (Or.inl rfl) ?_
        refine pw_ifnonnullZ C dX1_map_36 ?_
        refine pw_iconst C dX1_map_39 ?_
        refine pw_wide 600 3900 (by (try dsimp only); omega) (by (try dsimp only); omega) ?_
        refine pw_iret C hr dX1_map_40 ?_
        rw [show mapC T fu nk N Ls = (3, none, 0, 0, nk) from by unfold mapC; rw [if_pos hfn, hdl]]
        exact ⟨t, n, rs, rfl, hS, Ext.rf, by omega, hF, hI, hM, hC, rfl, fun _ _ => rfl⟩
      · rw [l1]
        obtain ⟨hd1, hd2⟩ := hF.get hj
        have hdt := hd2.2.1
        rw [show 0 + j0 = j0 from Nat.zero_add j0]
        have hj0 : j0 < 40 := by have h1 := (List.getElem?_eq_some_iff.mp hj).1; have h2 := hF.len; omega
        refine pw_stk (st' := [.ref (D j0)]) rfl ?_
        refine pw_astore (lv' := [(0, .ref (A 20)), (1, .int (iZ z)), (2, .int (iZ x)), (3, .int (iZ (obLen Ls))), (4, .ref (D j0))]) C dX1_map_32 (by decide) (Or.inr ⟨_, rfl⟩) rfl ?_
        refine pw_aload C dX1_map_34 rfl (Or.inr ⟨_, rfl⟩) ?_
        refine pw_ifnonnullR (tgt := 41) C dX1_map_36 (by decide) ?_
        refine pw_aload C dX1_map_41 rfl (Or.inr ⟨_, rfl⟩) ?_
        refine pw_getN (j := 1) C cl_X2 fn_X1_128 (by decide) rfl hd1 rfl dX1_map_43 ?_
        refine pw_iconst C dX1_map_46 ?_
        refine pw_icmp_eq (tgt := 52) C (by omega) (by omega) dX1_map_47 (by decide) (fun h_405 => ?_) (fun h_405 => ?_)
        · refine pw_iconst C dX1_map_52 ?_
          refine pw_istore (lv' := [(0, .ref (A 20)), (1, .int (iZ z)), (2, .int (iZ x)), (3, .int (iZ (obLen Ls))), (4, .ref (D j0)), (5, .int (iZ 0))]) C dX1_map_53 (by decide) rfl ?_
          refine pw_iload_n (i := 2) C dX1_map_55 rfl rfl ?_
          refine pw_istore (lv' := [(0, .ref (A 20)), (1, .int (iZ z)), (2, .int (iZ x)), (3, .int (iZ (obLen Ls))), (4, .ref (D j0)), (5, .int (iZ 0)), (6, .int (iZ x))]) C dX1_map_56 (by decide) rfl ?_
          refine pw_iconst C dX1_map_58 ?_
          refine pw_istore (lv' := [(0, .ref (A 20)), (1, .int (iZ z)), (2, .int (iZ x)), (3, .int (iZ (obLen Ls))), (4, .ref (D j0)), (5, .int (iZ 0)), (6, .int (iZ x)), (7, .int (iZ 0))]) C dX1_map_59 (by decide) rfl ?_
          have htk : obLen D1.2.1 = 1 := by omega
          have hdn : Vl t n d.1 N := by rw [l5]; exact hz
          have hk16 : 16 < kIx N := by have := hfn.1; unfold isFN at this; simp only [Bool.and_eq_true, decide_eq_true_eq] at this; exact this.2
          have loop : ∀ (kk : Nat) (w1 : pw_W) (t1 : Int → Ob) (n1 v y i : Int) (R0 : Ob) (k1 nk1 : Nat) (acc : List Ob), (obLen R0).toNat = kk → 0 ≤ obLen R0 → SB g w1 (A 2) cap t1 n1 → Ext t n t1 n1 → Vl t1 n1 y R0 → Vl t1 n1 v (mkL acc) → 0 ≤ i → i + obLen R0 = obLen Ls → (acc.length : Int) = i → FnI g w1 A D ds → DsT t1 n1 ds T → EvI g w1 A fu (k1 : Int) 0 nk1 → TmJ g w1 A → w1 20 = (A 20, some (cmE A rs kp)) → k1 ≤ fu → n1 + ((fu - k1 : Nat) : Int) ≤ n + fu → nk ≤ nk1 → mapF T fu N (lsO R0) k1 nk1 acc = mapF T fu N (lsO Ls) 0 nk [] → (∀ k, (k < 2 ∨ (7 < k ∧ k < 16) ∨ (22 < k ∧ k < 100) ∨ 899 < k) → w1 k = w k) → pw_G g p l e { frames := 5, cells := 600, slots := 3900, locals := 120 } s m args below meth c 9 (pw_Q g below (fun r w' => CmQ g w w' A D cap t n ds fu rs kp (fu + wd) (mapC T fu nk N Ls) r) args s { frames := 5, cells := 600, slots := 3900, locals := 120 }) (2 * (nk1 - nk)) (13 * (nk1 - nk)) 61 [(0, .ref (A 20)), (1, .int (iZ z)), (2, .int (iZ x)), (3, .int (iZ (obLen Ls))), (4, .ref (D j0)), (5, .int (iZ v)), (6, .int (iZ y)), (7, .int (iZ i))] [] w1 := by
            intro kk
            induction kk with
            | zero =>
              intro w1 t1 n1 v y i R0 k1 nk1 acc hk hlr hS1 hext hy hv hi0 hi hal hF1 hD1 hI1 hM1 hC1 hk1 hcp hnk hq hf1
              have hn1 := hS1.n
              have hvr := Vl.rng hS1 hv
              have hyr := Vl.rng hS1 hy
              have hnk3 := hI1.nk
              have hnp : obP R0 = false := by
                cases hb : obP R0 with
                | false => rfl
                | true => have := obLen_cdr hb hlr; omega
              have hal : obLen Ls = ((acc.length : Nat) : Int) := by omega
              refine pw_iload C dX1_map_61 rfl ?_
              refine pw_iload_n (i := 3) C dX1_map_63 rfl rfl ?_
              refine pw_icmp_ge (tgt := 136) C (by omega) (by omega) dX1_map_64 (by decide) (fun h_11 => ?_) (fun h_11 => ?_)
              · refine pw_aload_n (i := 0) C dX1_map_136 rfl rfl (Or.inr ⟨_, rfl⟩) ?_
                refine pw_aload_n (i := 0) C dX1_map_137 rfl rfl (Or.inr ⟨_, rfl⟩) ?_
                refine pw_iload C dX1_map_138 rfl ?_
                refine pw_iload_n (i := 3) C dX1_map_140 rfl rfl ?_
                refine pw_callV (As := [.int (iZ v), .int (iZ ((acc.length : Nat) : Int))]) (st := [.ref (A 20)]) C (m_X1_reversed g l hS1 hC1 hv (by omega)) my_X1_reversed ml_X1_137 (pw_rec.of C hC1 cl_X1.1) rfl ⟨Nat.le_of_ble_eq_true rfl, Nat.le_of_ble_eq_true rfl⟩ ⟨by (try dsimp only); omega, by (try dsimp only); omega⟩ (by rw [hal]; rfl) (Nat.le_of_ble_eq_true rfl) dX1_map_141 ?_
                rintro _ w_19 ⟨z_12, t_13, n_14, rfl, S_15, x_16, hn_17, z_12v, o_18⟩
                have v_20 := Vl.ext hv x_16
                have z_12r := Vl.rng S_15 z_12v
                refine pw_stk (st' := [.int (iZ z_12), .ref (A 20)]) rfl ?_
                have c_21 := (o_18 20 (by omega)).trans hC1
                refine pw_put (j := 4) C cl_X1 fl_X1_57 (by decide) rfl rfl rfl rfl rfl c_21 (Nat.le_of_ble_eq_true rfl) dX1_map_144 (fun w_24 k_22 o_23 => ?_)
                have k_25 : w_24 20 = ((A 20), some (OB 1 [.ref (A 2), .ref (A 16), .ref (A 18), .ref (A 21), .int (iZ z_12), .int (iZ kp)])) := k_22
                refine pw_iconst C dX1_map_147 ?_
                refine pw_wide 600 3900 (by (try dsimp only); omega) (by (try dsimp only); omega) ?_
                refine pw_iret C hr dX1_map_148 ?_
                rw [show mapC T fu nk N Ls = (0, some (mkL acc.reverse), k1, 0, nk1) from by unfold mapC; rw [if_pos hfn, hdl]; simp only; rw [if_pos htk, ← hq, lsO_np hnp]; rfl]
                exact ⟨t_13, n_14, z_12, rfl, S_15.same (fun k h1 h2 => (o_23 k (by omega))), hext.tr x_16, by omega, hF1.same (fun k h => (o_23 k (by omega)).trans (o_18 k (by omega))), hI1.same (fun k h => (o_23 k (by omega)).trans (o_18 k (by omega))), hM1.same (fun k h => (o_23 k (by omega)).trans (o_18 k (by omega))), k_25, z_12v, fun k hk => ((o_23 k (by omega)).trans (o_18 k (by omega))).trans (hf1 k (by omega))⟩
              · exfalso; omega
            | succ kk ih =>
              intro w1 t1 n1 v y i R0 k1 nk1 acc hk hlr hS1 hext hy hv hi0 hi hal hF1 hD1 hI1 hM1 hC1 hk1 hcp hnk hq hf1
              have hn1 := hS1.n
              have hvr := Vl.rng hS1 hv
              have hyr := Vl.rng hS1 hy
              have hnk3 := hI1.nk
              have hpr := obLen_pos (x := R0) (by omega)
              have hdn1 : Vl t1 n1 d.1 N := hdn.ext hext
              refine pw_iload C dX1_map_61 rfl ?_
              refine pw_iload_n (i := 3) C dX1_map_63 rfl rfl ?_
              refine pw_icmp_ge (tgt := 136) C (by omega) (by omega) dX1_map_64 (by decide) (fun h_31 => ?_) (fun h_31 => ?_)
              · exfalso; omega
              · refine pw_aload_n (i := 0) C dX1_map_67 rfl rfl (Or.inr ⟨_, rfl⟩) ?_
                refine pw_get (j := 2) C cl_X1 fl_X1_19 (by decide) rfl hC1 rfl dX1_map_68 ?_
                refine pw_aload C dX1_map_71 rfl (Or.inr ⟨_, rfl⟩) ?_
                refine pw_aload_n (i := 0) C dX1_map_73 rfl rfl (Or.inr ⟨_, rfl⟩) ?_
                refine pw_get (j := 0) C cl_X1 fl_X1_9 (by decide) rfl hC1 rfl dX1_map_74 ?_
                refine pw_iload C dX1_map_77 rfl ?_
                refine pw_callV (As := [.int (iZ y)]) (st := [.ref (D j0), .ref (A 18)]) C (vr_head hS1 hy) my_X6_head ml_X1_60 (hS1.rec C) rfl ⟨Nat.le_of_ble_eq_true rfl, Nat.le_of_ble_eq_true rfl⟩ ⟨by (try dsimp only); omega, by (try dsimp only); omega⟩ rfl (Nat.le_of_ble_eq_true rfl) dX1_map_79 ?_
                rintro _ _ ⟨rfl, z_32, rfl, z_32v⟩
                have z_32r := Vl.rng hS1 z_32v
                refine pw_stk (st' := [.int (iZ z_32), .ref (D j0), .ref (A 18)]) rfl ?_
                by_cases hfk : fu ≤ k1
                · refine pw_callV (As := [.ref (D j0), .int (iZ z_32)]) (st := []) C (m_X3_beginCall g l (T := T) hI1 hS1 hF1 hD1 ⟨hfu, hk1⟩ 0 hj hdn1 z_32v (by omega)) my_X3_beginCall ml_X1_133 (hI1.rec C) rfl ⟨Nat.le_of_ble_eq_true rfl, Nat.le_of_ble_eq_true rfl⟩ ⟨by (try dsimp only); omega, by (try dsimp only); omega⟩ rfl (Nat.le_of_ble_eq_true rfl) dX1_map_82 ?_
                  rintro _ w_33 ⟨rfl, hfb, hE⟩
                  rw [if_pos hfk] at hE
                  refine pw_stk (st' := []) rfl ?_
                  refine pw_aload_n (i := 0) C dX1_map_85 rfl rfl (Or.inr ⟨_, rfl⟩) ?_
                  have c_34 := (hfb 20 (by omega)).trans hC1
                  refine pw_get (j := 2) C cl_X1 fl_X1_19 (by decide) rfl c_34 rfl dX1_map_86 ?_
                  have hI3 := EvI.of hE
                  obtain ⟨K2, V2, mv2, tm2, sc2, vl2, hB2, -⟩ := hE
                  obtain ⟨bi2, F2, p1, p2, p3, p4, p6⟩ := hB2.lens
                  obtain ⟨hS2, hF2, -⟩ := id hB2
                  refine pw_callV (As := []) (st := []) C (ev_finishF g l p1 (by decide)) my_X3_finish ml_X1_99 (pw_rec.of C p1 cl_X3.1) rfl ⟨Nat.le_of_ble_eq_true rfl, Nat.le_of_ble_eq_true rfl⟩ ⟨by (try dsimp only); omega, by (try dsimp only); omega⟩ rfl (Nat.le_of_ble_eq_true rfl) dX1_map_89 ?_
                  rintro _ _ ⟨rfl, rfl⟩
                  refine pw_stk (st' := [.int (iZ (-1))]) rfl ?_
                  refine pw_istore (lv' := [(0, .ref (A 20)), (1, .int (iZ z)), (2, .int (iZ x)), (3, .int (iZ (obLen Ls))), (4, .ref (D j0)), (5, .int (iZ v)), (6, .int (iZ y)), (7, .int (iZ i)), (8, .int (iZ (-1)))]) C dX1_map_92 (by decide) rfl ?_
                  refine pw_aload_n (i := 0) C dX1_map_94 rfl rfl (Or.inr ⟨_, rfl⟩) ?_
                  refine pw_get (j := 2) C cl_X1 fl_X1_19 (by decide) rfl c_34 rfl dX1_map_95 ?_
                  refine pw_getN (j := 6) C cl_X3 fn_X1_102 (by decide) rfl p1 rfl dX1_map_98 ?_
                  refine pw_if_eq (tgt := 106) C (by omega) dX1_map_101 (by decide) (fun h_37 => ?_) (fun h_37 => ?_)
                  · exfalso; omega
                  · have hq' := hq
                    rw [lsO_p hpr, mapF, show mp1 T fu N (obCar R0) k1 nk1 = (1, oNil, k1, nk1) from if_pos hfk, if_neg (show ¬ (1 : Nat) = 0 by decide)] at hq'
                    refine pw_iconst C dX1_map_104 ?_
                    refine pw_wide 600 3900 (by (try dsimp only); omega) (by (try dsimp only); omega) ?_
                    refine pw_iret C hr dX1_map_105 ?_
                    rw [show mapC T fu nk N Ls = (4, none, k1, 1, nk1) from by unfold mapC; rw [if_pos hfn, hdl]; simp only; rw [if_pos htk, ← hq']; exact if_neg (show ¬ (1 : Nat) = 0 by decide)]
                    exact ⟨t1, n1, rs, rfl, hS2.same (fun k h1 h2 => rfl), hext, by omega, hF2.same (fun k h => rfl), hI3, hM1.same (fun k h => (hfb k (by omega))), c_34, rfl, fun k hk => ((hfb k (by omega))).trans (hf1 k (by omega))⟩
                · have hmp : mp1 T fu N (obCar R0) k1 nk1 = mRun T fu 30000 2 oNil [] [(N, oNil, [obCar R0], [], false)] (k1 + 1) (max nk1 1) := if_neg hfk
                  have hok : MOk T 2 oNil [] [(N, oNil, [obCar R0], [], false)] := Or.inr (Or.inr ⟨rfl, _, _, rfl, rfl, ⟨by rw [obLen_nil]; decide, rfl, fun _ => ⟨by rw [obLen_nil, arT_some hk16 hdl, htk]; rfl, fun q => by simp only at q; rw [q, kIx_k 3 (by decide)] at hk16; omega⟩⟩, trivial⟩)
                  have h9 : (mRun T fu 30000 2 oNil [] [(N, oNil, [obCar R0], [], false)] (k1 + 1) (max nk1 1)).1 ≠ 9 := mRun_ends hT _ _ _ _ _ _ _ hok (by simp only [frsPh, frPh, obLen_nil]; simp; omega)
                  have h3 := mRun_300 T fu 30000 2 oNil [] [(N, oNil, [obCar R0], [], false)] (k1 + 1) (max nk1 1) (by decide) (fun _ => by simp) (by omega)
                  have hf9 := mRun_9 T fu 30000 2 oNil [] [(N, oNil, [obCar R0], [], false)] (k1 + 1) (max nk1 1) (by decide) (fun _ => by simp)
                  have hnn := mRun_nk T fu 30000 2 oNil [] [(N, oNil, [obCar R0], [], false)] (k1 + 1) (max nk1 1) (by decide) (fun _ => by simp)
                  rw [← hmp] at h9 h3 hf9 hnn
                  refine pw_callV (As := [.ref (D j0), .int (iZ z_32)]) (st := []) C (m_X3_beginCall g l (T := T) hI1 hS1 hF1 hD1 ⟨hfu, hk1⟩ (max nk1 1 - nk1) hj hdn1 z_32v (by omega)) my_X3_beginCall ml_X1_133 (hI1.rec C) rfl ⟨Nat.le_of_ble_eq_true rfl, Nat.le_of_ble_eq_true rfl⟩ ⟨by (try dsimp only); omega, by (try dsimp only); omega⟩ rfl (Nat.le_of_ble_eq_true rfl) dX1_map_82 ?_
                  rintro _ w_33 ⟨rfl, hfb, hE⟩
                  rw [if_neg hfk] at hE
                  refine pw_stk (st' := []) rfl ?_
                  refine pw_aload_n (i := 0) C dX1_map_85 rfl rfl (Or.inr ⟨_, rfl⟩) ?_
                  have c_38 := (hfb 20 (by omega)).trans hC1
                  refine pw_get (j := 2) C cl_X1 fl_X1_19 (by decide) rfl c_38 rfl dX1_map_86 ?_
                  obtain ⟨K1, V1, mv1, tm1, sc1, vl1, hB1, -⟩ := id hE
                  refine pw_callV (As := []) (st := []) C (m_X3_finish g l (c0 := n1 + ((fu - (k1 + 1) : Nat) : Int)) hE hT hok (by decide) (by simp only [wS]; rw [wF_d hdl]; omega) (by omega) hmp.symm h9) my_X3_finish ml_X1_99 (hB1.recE C) rfl ⟨Nat.le_of_ble_eq_true rfl, Nat.le_of_ble_eq_true rfl⟩ ⟨by (try dsimp only); omega, by (try dsimp only); omega⟩ rfl (Nat.le_of_ble_eq_true rfl) dX1_map_89 ?_
                  rintro _ w_39 ⟨zf, t2, n2, S2, rfl, o_40, hx2, hn2, hE2, hv0, hv1⟩
                  generalize hRR : mp1 T fu N (obCar R0) k1 nk1 = RR at *
                  have hI3 := EvI.of hE2
                  obtain ⟨K2, V2, mv2, tm2, sc2, vl2, hB2, -⟩ := hE2
                  obtain ⟨bi2, F2, p1, p2, p3, p4, p6⟩ := hB2.lens
                  obtain ⟨hS2, hF2, hD2, -, -, -, -, -, hkf⟩ := id hB2
                  have v_41 := Vl.ext hv hx2
                  have v_42 := Vl.ext hy hx2
                  have v_43 := Vl.ext z_32v hx2
                  refine pw_stk (st' := [.int (iZ zf)]) rfl ?_
                  refine pw_istore (lv' := [(0, .ref (A 20)), (1, .int (iZ z)), (2, .int (iZ x)), (3, .int (iZ (obLen Ls))), (4, .ref (D j0)), (5, .int (iZ v)), (6, .int (iZ y)), (7, .int (iZ i)), (8, .int (iZ zf))]) C dX1_map_92 (by decide) rfl ?_
                  refine pw_aload_n (i := 0) C dX1_map_94 rfl rfl (Or.inr ⟨_, rfl⟩) ?_
                  have c_44 := (o_40 20 (by omega)).trans c_38
                  refine pw_get (j := 2) C cl_X1 fl_X1_19 (by decide) rfl c_44 rfl dX1_map_95 ?_
                  refine pw_getN (j := 6) C cl_X3 fn_X1_102 (by decide) rfl p1 rfl dX1_map_98 ?_
                  refine pw_if_eq (tgt := 106) C (by omega) dX1_map_101 (by decide) (fun h_45 => ?_) (fun h_45 => ?_)
                  · have e0 : RR.1 = 0 := by omega
                    have hzf := hv0 e0
                    have hzr := Vl.rng hS2 hzf
                    refine pw_aload_n (i := 0) C dX1_map_106 rfl rfl (Or.inr ⟨_, rfl⟩) ?_
                    refine pw_get (j := 0) C cl_X1 fl_X1_9 (by decide) rfl c_44 rfl dX1_map_107 ?_
                    refine pw_iload C dX1_map_110 rfl ?_
                    refine pw_iload C dX1_map_112 rfl ?_
                    refine pw_callV (As := [.int (iZ zf), .int (iZ v)]) (st := []) C (vr_pair hS2 (by omega) hzf v_41) my_X6_pair ml_X1_113 (hS2.rec C) rfl ⟨Nat.le_of_ble_eq_true rfl, Nat.le_of_ble_eq_true rfl⟩ ⟨by (try dsimp only); omega, by (try dsimp only); omega⟩ rfl (Nat.le_of_ble_eq_true rfl) dX1_map_114 ?_
                    rintro _ w_53 ⟨z_46, t_47, n_48, rfl, S_49, x_50, hn_51, z_46v, o_52⟩
                    have x_501 := x_50.1
                    have v_54 := Vl.ext v_41 x_50
                    have v_55 := Vl.ext v_42 x_50
                    have v_56 := Vl.ext v_43 x_50
                    have v_57 := Vl.ext hzf x_50
                    have z_46r := Vl.rng S_49 z_46v
                    refine pw_stk (st' := [.int (iZ z_46)]) rfl ?_
                    refine pw_istore (lv' := [(0, .ref (A 20)), (1, .int (iZ z)), (2, .int (iZ x)), (3, .int (iZ (obLen Ls))), (4, .ref (D j0)), (5, .int (iZ z_46)), (6, .int (iZ y)), (7, .int (iZ i)), (8, .int (iZ zf))]) C dX1_map_117 (by decide) rfl ?_
                    refine pw_aload_n (i := 0) C dX1_map_119 rfl rfl (Or.inr ⟨_, rfl⟩) ?_
                    have c_58 := (o_52 20 (by omega)).trans c_44
                    refine pw_get (j := 0) C cl_X1 fl_X1_9 (by decide) rfl c_58 rfl dX1_map_120 ?_
                    refine pw_iload C dX1_map_123 rfl ?_
                    refine pw_callV (As := [.int (iZ y)]) (st := []) C (vr_tail S_49 v_55) my_X6_tail ml_X1_116 (S_49.rec C) rfl ⟨Nat.le_of_ble_eq_true rfl, Nat.le_of_ble_eq_true rfl⟩ ⟨by (try dsimp only); omega, by (try dsimp only); omega⟩ rfl (Nat.le_of_ble_eq_true rfl) dX1_map_125 ?_
                    rintro _ _ ⟨rfl, z_59, rfl, z_59v⟩
                    have z_59r := Vl.rng S_49 z_59v
                    refine pw_stk (st' := [.int (iZ z_59)]) rfl ?_
                    refine pw_istore (lv' := [(0, .ref (A 20)), (1, .int (iZ z)), (2, .int (iZ x)), (3, .int (iZ (obLen Ls))), (4, .ref (D j0)), (5, .int (iZ z_46)), (6, .int (iZ z_59)), (7, .int (iZ i)), (8, .int (iZ zf))]) C dX1_map_128 (by decide) rfl ?_
                    refine pw_iinc (lv' := [(0, .ref (A 20)), (1, .int (iZ z)), (2, .int (iZ x)), (3, .int (iZ (obLen Ls))), (4, .ref (D j0)), (5, .int (iZ z_46)), (6, .int (iZ z_59)), (7, .int (iZ (i + 1))), (8, .int (iZ zf))]) C dX1_map_130 rfl (by decide) rfl ?_
                    refine pw_goto (tgt := 61) C dX1_map_133 (by decide) ?_
                    refine pw_sub [0, 1, 2, 3, 4, 5, 6, 7] rfl ?_
                    refine pw_wide (2 * (RR.2.2.2 - nk)) (13 * (RR.2.2.2 - nk)) (by (try dsimp only); omega) (by (try dsimp only); omega) ?_
                    rw [e0] at hI3
                    exact ih w_53 t_47 n_48 _ _ (i + 1) (obCdr R0) RR.2.2.1 RR.2.2.2 (RR.2.1 :: acc) (by have := obLen_cdr hpr hlr; omega) (obLen_cdr hpr hlr).2 S_49 (hext.tr (hx2.tr x_50)) z_59v z_46v (by omega) (by have := obLen_cdr hpr hlr; omega) (by simp only [List.length_cons]; omega) (hF2.same (fun k h => (o_52 k (by omega)))) (hD2.ext x_50) (hI3.same (fun k h => (o_52 k (by omega)))) (hM1.same (fun k h => (o_52 k (by omega)).trans ((o_40 k (by omega)).trans (hfb k (by omega))))) c_58 hkf.2 (by omega) (by omega) (by rw [← hq, lsO_p hpr, mapF, hRR, if_pos e0]) (fun k hk => ((o_52 k (by omega)).trans ((o_40 k (by omega)).trans (hfb k (by omega)))).trans (hf1 k hk))
                  · have hq' := hq
                    rw [lsO_p hpr, mapF, hRR, if_neg (by omega)] at hq'
                    refine pw_iconst C dX1_map_104 ?_
                    refine pw_wide 600 3900 (by (try dsimp only); omega) (by (try dsimp only); omega) ?_
                    refine pw_iret C hr dX1_map_105 ?_
                    rw [show mapC T fu nk N Ls = (4, none, RR.2.2.1, RR.1, RR.2.2.2) from by unfold mapC; rw [if_pos hfn, hdl]; simp only; rw [if_pos htk, ← hq']; exact if_neg (show ¬ RR.1 = 0 by omega)]
                    exact ⟨t2, n2, rs, rfl, hS2.same (fun k h1 h2 => rfl), (hext.tr hx2), by omega, hF2.same (fun k h => rfl), hI3, hM1.same (fun k h => (o_40 k (by omega)).trans (hfb k (by omega))), c_44, rfl, fun k hk => ((o_40 k (by omega)).trans (hfb k (by omega))).trans (hf1 k (by omega))⟩
          refine pw_wide (2 * (nk - nk)) (13 * (nk - nk)) (by (try dsimp only); omega) (by (try dsimp only); omega) ?_
          exact loop (obLen Ls).toNat w t n 0 _ 0 Ls 0 nk [] rfl (by omega) hS Ext.rf hx (Vl.nil hS) (by omega) (by omega) rfl hF hD hI hM hC (Nat.zero_le _) (by omega) (Nat.le_refl _) rfl (fun _ _ => rfl)
        · refine pw_iconst C dX1_map_50 ?_
          refine pw_wide 600 3900 (by (try dsimp only); omega) (by (try dsimp only); omega) ?_
          refine pw_iret C hr dX1_map_51 ?_
          rw [show mapC T fu nk N Ls = (2, none, 0, 0, nk) from by unfold mapC; rw [if_pos hfn, hdl]; simp only; rw [if_neg (by omega)]]
          exact ⟨t, n, rs, rfl, hS, Ext.rf, by omega, hF, hI, hM, hC, rfl, fun _ _ => rfl⟩
    · refine pw_iconst C dX1_map_22 ?_
      refine pw_wide 600 3900 (by (try dsimp only); omega) (by (try dsimp only); omega) ?_
      refine pw_iret C hr dX1_map_23 ?_
      rw [show mapC T fu nk N Ls = (2, none, 0, 0, nk) from by unfold mapC; rw [if_neg (fun q => absurd (show obLen Ls = -1 by omega) q.2)]]
      exact ⟨t, n, rs, rfl, hS, Ext.rf, by omega, hF, hI, hM, hC, rfl, fun _ _ => rfl⟩

