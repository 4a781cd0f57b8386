/-! the calls that go through all ARGUMENTS -/
/-- a row's digits of eight, told as digits of nine -/
def ntR (r n : Int) : Nat → Int
  | 0 => 0
  | k + 1 => ntR r n k * 9 + bAnd (bShr r (3 * (n - 1 - k))) 7
def ntF (f r : Int) : Int := ntR r (nA f) (nA f).toNat
theorem ntF_in {f : Int} (hf : 0 ≤ f ∧ f < 4) (r : Int) : 0 ≤ ntF f r ∧ ntF f r < stV 1 f := by
  unfold ntF
  rcases four hf with rfl | rfl | rfl | rfl
  · have h0 := bAnd7 (bShr r (3 * (1 - 1 - (0 : Nat))))
    show 0 ≤ 0 * 9 + _ ∧ 0 * 9 + _ < (9 : Int)
    change 0 ≤ 0 * 9 + bAnd (bShr r (3 * (1 - 1 - (0 : Nat)))) 7 ∧ 0 * 9 + bAnd (bShr r (3 * (1 - 1 - (0 : Nat)))) 7 < (9 : Int)
    omega
  · have h0 := bAnd7 (bShr r (3 * (2 - 1 - (0 : Nat))))
    have h1 := bAnd7 (bShr r (3 * (2 - 1 - (1 : Nat))))
    change 0 ≤ (0 * 9 + bAnd (bShr r (3 * (2 - 1 - (0 : Nat)))) 7) * 9 + bAnd (bShr r (3 * (2 - 1 - (1 : Nat)))) 7 ∧ (0 * 9 + bAnd (bShr r (3 * (2 - 1 - (0 : Nat)))) 7) * 9 + bAnd (bShr r (3 * (2 - 1 - (1 : Nat)))) 7 < (81 : Int)
    omega
  · have h0 := bAnd7 (bShr r (3 * (3 - 1 - (0 : Nat))))
    have h1 := bAnd7 (bShr r (3 * (3 - 1 - (1 : Nat))))
    have h2 := bAnd7 (bShr r (3 * (3 - 1 - (2 : Nat))))
    change 0 ≤ ((0 * 9 + bAnd (bShr r (3 * (3 - 1 - (0 : Nat)))) 7) * 9 + bAnd (bShr r (3 * (3 - 1 - (1 : Nat)))) 7) * 9 + bAnd (bShr r (3 * (3 - 1 - (2 : Nat)))) 7 ∧ ((0 * 9 + bAnd (bShr r (3 * (3 - 1 - (0 : Nat)))) 7) * 9 + bAnd (bShr r (3 * (3 - 1 - (1 : Nat)))) 7) * 9 + bAnd (bShr r (3 * (3 - 1 - (2 : Nat)))) 7 < (729 : Int)
    omega
  · have h0 := bAnd7 (bShr r (3 * (2 - 1 - (0 : Nat))))
    have h1 := bAnd7 (bShr r (3 * (2 - 1 - (1 : Nat))))
    change 0 ≤ (0 * 9 + bAnd (bShr r (3 * (2 - 1 - (0 : Nat)))) 7) * 9 + bAnd (bShr r (3 * (2 - 1 - (1 : Nat)))) 7 ∧ (0 * 9 + bAnd (bShr r (3 * (2 - 1 - (0 : Nat)))) 7) * 9 + bAnd (bShr r (3 * (2 - 1 - (1 : Nat)))) 7 < (81 : Int)
    omega
theorem stV2_in {f : Int} (h : 0 ≤ f ∧ f < 4) : 8 ≤ stV 2 f ∧ stV 2 f ≤ 512 := by rcases four h with rfl | rfl | rfl | rfl <;> decide
/-- a sum over rows -/
def smF (P : Int → Int) : Nat → Int
  | 0 => 0
  | k + 1 => smF P k + P k
theorem smF_in {P : Int → Int} {m : Int} (hm : 0 ≤ m) (h : ∀ j, 0 ≤ P j ∧ P j ≤ m) : ∀ k : Nat, 0 ≤ smF P k ∧ smF P k ≤ k * m
  | 0 => by simp [smF]
  | k + 1 => by
    have ih := smF_in hm h k
    have hj := h k
    unfold smF
    have e : ((k + 1 : Nat) : Int) * m = k * m + m := by rw [Int.natCast_add, Int.add_mul]; simp
    omega
def srt (e : Int) : Int := if e < 8 then 0 else e - 7
def pEnds (re : RF) (f k : Int) : Int → Int := fun r => if srt (re f (ntF f r) 1) = k then 1 else 0
def vEnds (re : RF) (x k : Int) : Int := if 0 ≤ x ∧ x < 4 then (if 0 ≤ k ∧ k ≤ 2 then smF (pEnds re x k) (stV 2 x).toNat else -2) else -1
def pSteps (re rt : RF) (f w : Int) : Int → Int := fun r => if re f (ntF f r) 1 < 8 then rt f (ntF f r) w else 0
def vSteps (re rt : RF) (x w : Int) : Int := if 0 ≤ x ∧ x < 4 then (if 0 ≤ w ∧ w < 4 then smF (pSteps re rt x w) (stV 2 x).toNat else -2) else -1
def pUn (re : RF) (f w o : Int) : Int → Int := fun a => if re f a w = re f a o then 0 else 1
/-- the first row from a on by which two ways end unlike -/
def fUn (re : RF) (f w o : Int) : Nat → Int → Int
  | 0, _ => -6
  | n + 1, a => if re f a w = re f a o then fUn re f w o n (a + 1) else a
def vUn (re : RF) (x w o k : Int) : Int := if 0 ≤ x ∧ x < 4 then (if ((0 ≤ w ∧ w < 4) ∧ (0 ≤ o ∧ o < 4)) ∧ 0 ≤ k ∧ k ≤ 1 then (if k = 1 then fUn re x w o (stV 1 x).toNat 0 else smF (pUn re x w o) (stV 1 x).toNat) else -2) else -1
/-- an ARGUMENT matters: some row from r on ends unlike the one with 0 there -/
def dig (x y : Int) : Int := bXor (bShl 7 (3 * (nA x - 1 - y))) (-1)
def fMat (re : RF) (x y : Int) : Nat → Int → Int
  | 0, _ => 0
  | n + 1, r => if re x (ntF x r) 1 = re x (ntF x (bAnd r (dig x y))) 1 then fMat re x y n (r + 1) else 1
def vMat (re : RF) (x y : Int) : Int := if (0 ≤ x ∧ x < 4) ∧ 0 ≤ y ∧ y < nA x then fMat re x y (stV 2 x).toNat 0 else -1
theorem RSt.in {σ : Sg} {re rt : RF} (h : RSt σ re rt) {f a w : Int} (hi : inRun f a w) : (0 ≤ re f a w ∧ re f a w ≤ 9) ∧ (0 ≤ rt f a w ∧ rt f a w ≤ 300) :=
  ⟨(h.1 σ (fun _ _ => rfl) h.2.2.1 f a w hi).2.2.2.1, (h.1 σ (fun _ _ => rfl) h.2.2.1 f a w hi).2.2.2.2.1⟩
theorem sm_toNat {P : Int → Int} {r : Int} (h : 0 ≤ r) : smF P (r + 1).toNat = smF P r.toNat + P r := by
  rw [show (r + 1).toNat = r.toNat + 1 by omega, smF, show ((r.toNat : Nat) : Int) = r by omega]
set_option maxHeartbeats 1000000 in
theorem c_X8_numbersTold (l : Launch) (E : Ev) (q : Nat → Nat) (sh : List Shp) (σ : Sg) (x y : Int) (hy : 0 ≤ y ∧ y < 4) : CI l E yX8_numbersTold cX8_numbersTold 4 .int ({ frames := 3, cells := 0, slots := 0, locals := 61 } : Room) q sh σ [vI x, vI y] (is (ntF y x) σ) := by
  have hn := nA_in y
  refine CI_of (own := RX8) (by decide) rfl (Nat.le_of_ble_eq_true rfl) (fun X Q F hQ => ?_)
  show G X E 4 q sh σ 0 0 Q 0 [(0, vI x), (1, vI y)] []
  refine g_iconst F d_X8_numbersTold_0 ?_
  refine g_istore_n F (lv' := [(2, vI 0), (0, vI x), (1, vI y)]) rfl (by decide) rfl d_X8_numbersTold_1 ?_
  refine g_iconst F d_X8_numbersTold_2 ?_
  refine g_istore_n F (lv' := [(3, vI 0), (2, vI 0), (0, vI x), (1, vI y)]) rfl (by decide) rfl d_X8_numbersTold_3 ?_
  have loop4 : ∀ (nn : Nat) (d : Int) (a : Int), (0 ≤ a ∧ a ≤ nA y) → (d = ntR x (nA y) a.toNat) → (nA y - a).toNat < nn → G X E 4 q sh σ 0 0 Q 4 [(0, vI x), (1, vI y), (2, vI d), (3, vI a)] [] := by
    intro n4
    induction n4 with
    | zero => intro d a ha hd hm4; exact absurd hm4 (Nat.not_lt_zero _)
    | succ n4 ih4 =>
      intro d a ha hd hm4
      refine g_iload_n F 3 rfl rfl d_X8_numbersTold_4 ?_
      refine g_iload_n F 1 rfl rfl d_X8_numbersTold_5 ?_
      refine g_Si F (own := RX8) (c_X8_argumentsOf l E q sh σ y ⟨by omega, by omega⟩) k_X8_168 [vI a] d_X8_numbersTold_6 ⟨rfl, rfl, by decide, by decide⟩ ⟨Nat.zero_le _, Nat.zero_le _⟩ rfl (Nat.le_of_ble_eq_true rfl) ?_
      rintro _ _ ⟨rfl, rfl⟩
      refine g_icmp_ge F d_X8_numbersTold_9 ⟨by omega, by omega⟩ ⟨by omega, by omega⟩ (fun h9 => ?_) (fun h9 => ?_)
      · refine g_iload_n F 2 rfl rfl d_X8_numbersTold_34 ?_
        exact hQ d_X8_numbersTold_35 (⟨by rw [hd, show a = nA y by omega]; rfl, rfl⟩)
      · refine g_iload_n F 2 rfl rfl d_X8_numbersTold_12 ?_
        refine g_bipush F (by decide) d_X8_numbersTold_13 ?_
        refine g_imul F d_X8_numbersTold_15 ?_
        refine g_iload_n F 0 rfl rfl d_X8_numbersTold_16 ?_
        refine g_iload_n F 1 rfl rfl d_X8_numbersTold_17 ?_
        refine g_iload_n F 3 rfl rfl d_X8_numbersTold_18 ?_
        refine g_Si F (own := RX8) (c_X8_shiftOf l E q sh σ y a ⟨by omega, by omega⟩ ⟨by omega, by omega⟩) k_X8_162 [vI x, vI (d * 9)] d_X8_numbersTold_19 ⟨rfl, rfl, by decide, by decide⟩ ⟨Nat.zero_le _, Nat.zero_le _⟩ rfl (Nat.le_of_ble_eq_true rfl) ?_
        rintro _ _ ⟨rfl, rfl⟩
        refine g_ishr F d_X8_numbersTold_22 ?_
        refine g_bipush F (by decide) d_X8_numbersTold_23 ?_
        refine g_iand F d_X8_numbersTold_25 ?_
        refine g_iadd F d_X8_numbersTold_26 ?_
        refine g_istore_n F (lv' := [(2, vI ((d * 9) + (bAnd (bShr x (3 * (nA y - 1 - a))) 7))), (0, vI x), (1, vI y), (3, vI a)]) rfl (by decide) rfl d_X8_numbersTold_27 ?_
        refine g_iinc F (lv' := [(3, vI (a + 1)), (2, vI ((d * 9) + (bAnd (bShr x (3 * (nA y - 1 - a))) 7))), (0, vI x), (1, vI y)]) 3 rfl rfl (by decide) rfl d_X8_numbersTold_28 ?_
        refine g_goto F d_X8_numbersTold_31 ?_
        refine G_sub (ks := [2, 3, 1, 0]) rfl ?_
        exact ih4 ((d * 9) + (bAnd (bShr x (3 * (nA y - 1 - a))) 7)) (a + 1) (by omega) (by rw [show (a + 1).toNat = a.toNat + 1 by omega, ntR, ← hd, show ((a.toNat : Nat) : Int) = a by omega]) (by omega)
  refine G_sub (ks := [2, 3, 1, 0]) rfl ?_
  exact loop4 _ 0 0 (by omega) rfl (Nat.lt_succ_self _)
set_option maxHeartbeats 1000000 in
theorem c_X8_ends (l : Launch) (E : Ev) (q : Nat → Nat) (sh : List Shp) (σ : Sg) (hs : HsC sh) (x k : Int) (re rt : RF) (rx : rg x) (rk : rg k) (hR : RSt σ re rt) : CI l E yX8_ends cX8_ends 6 .int ({ frames := 6, cells := 0, slots := 0, locals := 139 } : Room) q sh σ [.ref (q 0), vI x, vI k] (fun z τ => z = vEnds re x k ∧ Sm orows σ τ ∧ RSt τ re rt) := by
  have rx1 := rx.1
  have rx2 := rx.2
  have rk1 := rk.1
  have rk2 := rk.2
  refine CI_of (own := RX8) (by decide) rfl (Nat.le_of_ble_eq_true rfl) (fun X Q F hQ => ?_)
  show G X E 6 q sh σ 0 0 Q 0 [(0, .ref (q 0)), (1, vI x), (2, vI k)] []
  refine g_iload_n F 1 rfl rfl d_X8_ends_0 ?_
  refine g_Si F (own := RX8) (c_X8_isFunction l E q sh σ x ⟨by omega, by omega⟩) k_X8_75 [] d_X8_ends_1 ⟨rfl, rfl, by decide, by decide⟩ ⟨Nat.zero_le _, Nat.zero_le _⟩ rfl (Nat.le_of_ble_eq_true rfl) ?_
  rintro _ _ ⟨rfl, rfl⟩
  refine g_b_ne F d_X8_ends_4 (fun h4 => ?_) (fun h4 => ?_)
  · refine g_iload_n F 2 rfl rfl d_X8_ends_9 ?_
    refine g_if_lt F d_X8_ends_10 ⟨by omega, by omega⟩ (fun h10 => ?_) (fun h10 => ?_)
    · refine g_bipush F (by decide) d_X8_ends_18 ?_
      exact hQ d_X8_ends_20 (⟨by unfold vEnds; rw [if_pos h4, if_neg (by omega)], Sm.refl _ _, hR⟩)
    · refine g_iload_n F 2 rfl rfl d_X8_ends_13 ?_
      refine g_iconst F d_X8_ends_14 ?_
      refine g_icmp_le F d_X8_ends_15 ⟨by omega, by omega⟩ ⟨by decide, by decide⟩ (fun h15 => ?_) (fun h15 => ?_)
      · have t2 := stV2_in h4
        refine g_iconst F d_X8_ends_21 ?_
        refine g_istore_n F (lv' := [(3, vI 0), (0, .ref (q 0)), (1, vI x), (2, vI k)]) rfl (by decide) rfl d_X8_ends_22 ?_
        refine g_iconst F d_X8_ends_23 ?_
        refine g_istore F (lv' := [(4, vI 0), (3, vI 0), (0, .ref (q 0)), (1, vI x), (2, vI k)]) (by decide) rfl d_X8_ends_24 ?_
        have loop26 : ∀ (nn : Nat) (n : Int) (r : Int) (τ : Sg), (0 ≤ r ∧ r ≤ stV 2 x) → (n = smF (pEnds re x k) r.toNat) → (Sm orows σ τ) → (RSt τ re rt) → (stV 2 x - r).toNat < nn → G X E 6 q sh τ 0 0 Q 26 [(0, .ref (q 0)), (1, vI x), (2, vI k), (3, vI n), (4, vI r)] [] := by
          intro n26
          induction n26 with
          | zero => intro n r τ hr hn hm hR1 hm26; exact absurd hm26 (Nat.not_lt_zero _)
          | succ n26 ih26 =>
            intro n r τ hr hn hm hR1 hm26
            refine g_iload F 4 rfl d_X8_ends_26 ?_
            refine g_gets F 2 (by decide) rfl (mg 679 (by decide +kernel) rfl) d_X8_ends_28 ?_
            refine g_iload_n F 1 rfl rfl d_X8_ends_31 ?_
            refine g_sald F 2 (by decide) (by omega) (by show _ < (4 : Int); omega) d_X8_ends_32 ?_
            refine g_icmp_ge F d_X8_ends_33 ⟨by omega, by omega⟩ ⟨by omega, by omega⟩ (fun h33 => ?_) (fun h33 => ?_)
            · refine g_iload_n F 3 rfl rfl d_X8_ends_74 ?_
              exact hQ d_X8_ends_75 (⟨by unfold vEnds; rw [if_pos h4, if_pos (by omega), hn, show r = stV 2 x by omega], hm, hR1⟩)
            · have hin : inRun x (ntF x r) 1 := ⟨h4, ntF_in h4 r, by decide, by decide⟩
              have hb := hR1.in hin
              have hb1 := hb.1
              have hb2 := hb.2
              refine g_aload_n F 0 rfl rfl d_X8_ends_36 ?_
              refine g_getR F f_X8_56 d_X8_ends_37 (hsC_0 hs) rfl ?_
              refine g_iload_n F 1 rfl rfl d_X8_ends_40 ?_
              refine g_iload F 4 rfl d_X8_ends_41 ?_
              refine g_iload_n F 1 rfl rfl d_X8_ends_43 ?_
              refine g_Si F (own := RX8) (c_X8_numbersTold l E q sh τ r x h4) k_X8_156 [vI x, .ref (q 20)] d_X8_ends_44 ⟨rfl, rfl, by decide, by decide⟩ ⟨Nat.zero_le _, Nat.zero_le _⟩ rfl (Nat.le_of_ble_eq_true rfl) ?_
              rintro _ _ ⟨rfl, rfl⟩
              refine g_iconst F d_X8_ends_47 ?_
              refine g_Vi F (own := RX8) (c_X3_of l E q sh τ hs x (ntF x r) 1 re rt hin hR1) k_X8_115 (hsC_20 hs) rfl rfl [] d_X8_ends_48 ⟨rfl, rfl, by decide, by decide⟩ ⟨Nat.zero_le _, Nat.zero_le _⟩ rfl (Nat.le_of_ble_eq_true rfl) ?_
              intro z5 τ5 hz5
              obtain ⟨rfl, hm5, hR5⟩ := hz5
              refine g_istore F (lv' := [(5, vI (rt x (ntF x r) 1 * 10 + re x (ntF x r) 1)), (0, .ref (q 0)), (1, vI x), (2, vI k), (3, vI n), (4, vI r)]) (by decide) rfl d_X8_ends_51 ?_
              refine g_iload F 0 rfl d_X8_ends_53 ?_
              refine g_Si F (own := RX8) (c_X3_endIn l E q sh τ5 (rt x (ntF x r) 1 * 10 + re x (ntF x r) 1) (by omega)) k_X8_119 [] d_X8_ends_55 ⟨rfl, rfl, by decide, by decide⟩ ⟨Nat.zero_le _, Nat.zero_le _⟩ rfl (Nat.le_of_ble_eq_true rfl) ?_
              rintro _ _ ⟨rfl, rfl⟩
              refine G_top (b := re x (ntF x r) 1) (run_e hb1 hb2) ?_
              refine g_Si F (own := RX8) (c_X8_sortOfEnd l E q sh τ5 (re x (ntF x r) 1) ⟨by omega, by omega⟩) k_X8_159 [] d_X8_ends_58 ⟨rfl, rfl, by decide, by decide⟩ ⟨Nat.zero_le _, Nat.zero_le _⟩ rfl (Nat.le_of_ble_eq_true rfl) ?_
              rintro _ _ ⟨rfl, rfl⟩
              refine g_iload_n F 3 rfl rfl d_X8_ends_61 ?_
              refine g_icmp_ne F d_X8_ends_62 ⟨by omega, by omega⟩ ⟨by omega, by omega⟩ (fun h62 => ?_) (fun h62 => ?_)
              · refine g_iinc F (lv' := [(4, vI (r + 1)), (5, vI (rt x (ntF x r) 1 * 10 + re x (ntF x r) 1)), (0, .ref (q 0)), (1, vI x), (2, vI k), (3, vI n)]) 5 rfl rfl (by decide) rfl d_X8_ends_68 ?_
                refine g_goto F d_X8_ends_71 ?_
                have hn2 : n = smF (pEnds re x k) (r + 1).toNat := by
                  rw [sm_toNat hr.1, ← hn]
                  unfold pEnds srt
                  first
                    | (rw [if_pos h62]; done)
                    | (rw [if_neg h62, Int.add_zero]; done)
                refine G_sub (ks := [2, 3, 4, 5, 0]) rfl ?_
                exact ih26 n (r + 1) τ5 (by omega) hn2 (hm.trans hm5) hR5 (by omega)
              · refine g_iinc F (lv' := [(3, vI (n + 1)), (5, vI (rt x (ntF x r) 1 * 10 + re x (ntF x r) 1)), (0, .ref (q 0)), (1, vI x), (2, vI k), (4, vI r)]) 4 rfl rfl (by decide) rfl d_X8_ends_65 ?_
                refine g_iinc F (lv' := [(4, vI (r + 1)), (3, vI (n + 1)), (5, vI (rt x (ntF x r) 1 * 10 + re x (ntF x r) 1)), (0, .ref (q 0)), (1, vI x), (2, vI k)]) 5 rfl rfl (by decide) rfl d_X8_ends_68 ?_
                refine g_goto F d_X8_ends_71 ?_
                have hn2 : (n + 1) = smF (pEnds re x k) (r + 1).toNat := by
                  rw [sm_toNat hr.1, ← hn]
                  unfold pEnds srt
                  first
                    | (rw [if_pos h62]; done)
                    | (rw [if_neg h62, Int.add_zero]; done)
                refine G_sub (ks := [3, 4, 5, 1, 0]) rfl ?_
                exact ih26 (n + 1) (r + 1) τ5 (by omega) hn2 (hm.trans hm5) hR5 (by omega)
        refine G_sub (ks := [2, 3, 4, 1, 0]) rfl ?_
        exact loop26 _ 0 0 σ (by omega) rfl (Sm.refl _ _) hR (Nat.lt_succ_self _)
      · refine g_bipush F (by decide) d_X8_ends_18 ?_
        exact hQ d_X8_ends_20 (⟨by unfold vEnds; rw [if_pos h4, if_neg (by omega)], Sm.refl _ _, hR⟩)
  · refine g_iconst F d_X8_ends_7 ?_
    exact hQ d_X8_ends_8 (⟨by unfold vEnds; rw [if_neg h4], Sm.refl _ _, hR⟩)
set_option maxHeartbeats 1000000 in
theorem c_X8_steps (l : Launch) (E : Ev) (q : Nat → Nat) (sh : List Shp) (σ : Sg) (hs : HsC sh) (x w : Int) (re rt : RF) (rx : rg x) (rw : rg w) (hR : RSt σ re rt) : CI l E yX8_steps cX8_steps 6 .int ({ frames := 6, cells := 0, slots := 0, locals := 139 } : Room) q sh σ [.ref (q 0), vI x, vI w] (fun z τ => z = vSteps re rt x w ∧ Sm orows σ τ ∧ RSt τ re rt) := by
  have rx1 := rx.1
  have rx2 := rx.2
  have rw1 := rw.1
  have rw2 := rw.2
  refine CI_of (own := RX8) (by decide) rfl (Nat.le_of_ble_eq_true rfl) (fun X Q F hQ => ?_)
  show G X E 6 q sh σ 0 0 Q 0 [(0, .ref (q 0)), (1, vI x), (2, vI w)] []
  refine g_iload_n F 1 rfl rfl d_X8_steps_0 ?_
  refine g_Si F (own := RX8) (c_X8_isFunction l E q sh σ x ⟨by omega, by omega⟩) k_X8_75 [] d_X8_steps_1 ⟨rfl, rfl, by decide, by decide⟩ ⟨Nat.zero_le _, Nat.zero_le _⟩ rfl (Nat.le_of_ble_eq_true rfl) ?_
  rintro _ _ ⟨rfl, rfl⟩
  refine g_b_ne F d_X8_steps_4 (fun h4 => ?_) (fun h4 => ?_)
  · refine g_iload_n F 2 rfl rfl d_X8_steps_9 ?_
    refine g_Si F (own := RX8) (c_X8_isWay l E q sh σ w ⟨by omega, by omega⟩) k_X8_112 [] d_X8_steps_10 ⟨rfl, rfl, by decide, by decide⟩ ⟨Nat.zero_le _, Nat.zero_le _⟩ rfl (Nat.le_of_ble_eq_true rfl) ?_
    rintro _ _ ⟨rfl, rfl⟩
    refine g_b_ne F d_X8_steps_13 (fun h13 => ?_) (fun h13 => ?_)
    · have t2 := stV2_in h4
      refine g_iconst F d_X8_steps_19 ?_
      refine g_istore_n F (lv' := [(3, vI 0), (0, .ref (q 0)), (1, vI x), (2, vI w)]) rfl (by decide) rfl d_X8_steps_20 ?_
      refine g_iconst F d_X8_steps_21 ?_
      refine g_istore F (lv' := [(4, vI 0), (3, vI 0), (0, .ref (q 0)), (1, vI x), (2, vI w)]) (by decide) rfl d_X8_steps_22 ?_
      have loop24 : ∀ (nn : Nat) (n : Int) (r : Int) (τ : Sg), (0 ≤ r ∧ r ≤ stV 2 x) → (n = smF (pSteps re rt x w) r.toNat) → (Sm orows σ τ) → (RSt τ re rt) → (stV 2 x - r).toNat < nn → G X E 6 q sh τ 0 0 Q 24 [(0, .ref (q 0)), (1, vI x), (2, vI w), (3, vI n), (4, vI r)] [] := by
        intro n24
        induction n24 with
        | zero => intro n r τ hr hn hm hR1 hm24; exact absurd hm24 (Nat.not_lt_zero _)
        | succ n24 ih24 =>
          intro n r τ hr hn hm hR1 hm24
          refine g_iload F 4 rfl d_X8_steps_24 ?_
          refine g_gets F 2 (by decide) rfl (mg 679 (by decide +kernel) rfl) d_X8_steps_26 ?_
          refine g_iload_n F 1 rfl rfl d_X8_steps_29 ?_
          refine g_sald F 2 (by decide) (by omega) (by show _ < (4 : Int); omega) d_X8_steps_30 ?_
          refine g_icmp_ge F d_X8_steps_31 ⟨by omega, by omega⟩ ⟨by omega, by omega⟩ (fun h31 => ?_) (fun h31 => ?_)
          · refine g_iload_n F 3 rfl rfl d_X8_steps_84 ?_
            exact hQ d_X8_steps_85 (⟨by unfold vSteps; rw [if_pos h4, if_pos h13, hn, show r = stV 2 x by omega], hm, hR1⟩)
          · have hin : inRun x (ntF x r) 1 := ⟨h4, ntF_in h4 r, by decide, by decide⟩
            have hin2 : inRun x (ntF x r) w := ⟨h4, ntF_in h4 r, h13⟩
            have hb1 := (hR1.in hin).1
            have hb2 := (hR1.in hin).2
            have hb3 := (hR1.in hin2).1
            have hb4 := (hR1.in hin2).2
            refine g_iload F 4 rfl d_X8_steps_34 ?_
            refine g_iload_n F 1 rfl rfl d_X8_steps_36 ?_
            refine g_Si F (own := RX8) (c_X8_numbersTold l E q sh τ r x h4) k_X8_156 [] d_X8_steps_37 ⟨rfl, rfl, by decide, by decide⟩ ⟨Nat.zero_le _, Nat.zero_le _⟩ rfl (Nat.le_of_ble_eq_true rfl) ?_
            rintro _ _ ⟨rfl, rfl⟩
            refine g_istore F (lv' := [(5, vI (ntF x r)), (0, .ref (q 0)), (1, vI x), (2, vI w), (3, vI n), (4, vI r)]) (by decide) rfl d_X8_steps_40 ?_
            refine g_aload_n F 1 rfl rfl d_X8_steps_42 ?_
            refine g_getR F f_X8_56 d_X8_steps_43 (hsC_0 hs) rfl ?_
            refine g_iload_n F 2 rfl rfl d_X8_steps_46 ?_
            refine g_iload F 0 rfl d_X8_steps_47 ?_
            refine g_iconst F d_X8_steps_49 ?_
            refine g_Vi F (own := RX8) (c_X3_of l E q sh τ hs x (ntF x r) 1 re rt hin hR1) k_X8_115 (hsC_20 hs) rfl rfl [] d_X8_steps_50 ⟨rfl, rfl, by decide, by decide⟩ ⟨Nat.zero_le _, Nat.zero_le _⟩ rfl (Nat.le_of_ble_eq_true rfl) ?_
            intro z5 τ5 hz5
            obtain ⟨rfl, hm5, hR5⟩ := hz5
            refine g_Si F (own := RX8) (c_X3_endIn l E q sh τ5 (rt x (ntF x r) 1 * 10 + re x (ntF x r) 1) (by omega)) k_X8_119 [] d_X8_steps_53 ⟨rfl, rfl, by decide, by decide⟩ ⟨Nat.zero_le _, Nat.zero_le _⟩ rfl (Nat.le_of_ble_eq_true rfl) ?_
            rintro _ _ ⟨rfl, rfl⟩
            refine G_top (b := re x (ntF x r) 1) (run_e hb1 hb2) ?_
            refine g_bipush F (by decide) d_X8_steps_56 ?_
            refine g_icmp_ge F d_X8_steps_58 ⟨by omega, by omega⟩ ⟨by decide, by decide⟩ (fun h58 => ?_) (fun h58 => ?_)
            · refine g_iinc F (lv' := [(4, vI (r + 1)), (5, vI (ntF x r)), (0, .ref (q 0)), (1, vI x), (2, vI w), (3, vI n)]) 5 rfl rfl (by decide) rfl d_X8_steps_78 ?_
              refine g_goto F d_X8_steps_81 ?_
              have hn2 : n = smF (pSteps re rt x w) (r + 1).toNat := by
                rw [sm_toNat hr.1, ← hn]
                unfold pSteps
                first
                  | (rw [if_pos (by omega)]; done)
                  | (rw [if_neg (by omega), Int.add_zero]; done)
              have hm9 : Sm orows σ τ5 := by first | exact (hm.trans hm5).trans hm6 | exact hm.trans hm5
              have hR9 : RSt τ5 re rt := by first | exact hR6 | exact hR5
              refine G_sub (ks := [2, 3, 4, 5, 0]) rfl ?_
              exact ih24 n (r + 1) τ5 (by omega) hn2 hm9 hR9 (by omega)
            · refine g_iload_n F 4 rfl rfl d_X8_steps_61 ?_
              refine g_aload_n F 1 rfl rfl d_X8_steps_62 ?_
              refine g_getR F f_X8_56 d_X8_steps_63 (hsC_0 hs) rfl ?_
              refine g_iload_n F 2 rfl rfl d_X8_steps_66 ?_
              refine g_iload F 0 rfl d_X8_steps_67 ?_
              refine g_iload_n F 3 rfl rfl d_X8_steps_69 ?_
              refine g_Vi F (own := RX8) (c_X3_of l E q sh τ5 hs x (ntF x r) w re rt hin2 hR5) k_X8_115 (hsC_20 hs) rfl rfl [vI n] d_X8_steps_70 ⟨rfl, rfl, by decide, by decide⟩ ⟨Nat.zero_le _, Nat.zero_le _⟩ rfl (Nat.le_of_ble_eq_true rfl) ?_
              intro z6 τ6 hz6
              obtain ⟨rfl, hm6, hR6⟩ := hz6
              refine g_Si F (own := RX8) (c_X3_stepsIn l E q sh τ6 (rt x (ntF x r) w * 10 + re x (ntF x r) w) (by omega)) k_X8_122 [vI n] d_X8_steps_73 ⟨rfl, rfl, by decide, by decide⟩ ⟨Nat.zero_le _, Nat.zero_le _⟩ rfl (Nat.le_of_ble_eq_true rfl) ?_
              rintro _ _ ⟨rfl, rfl⟩
              refine G_top (b := rt x (ntF x r) w) (run_t hb3 hb4) ?_
              refine g_iadd F d_X8_steps_76 ?_
              refine g_istore_n F (lv' := [(3, vI (n + (rt x (ntF x r) w))), (5, vI (ntF x r)), (0, .ref (q 0)), (1, vI x), (2, vI w), (4, vI r)]) rfl (by decide) rfl d_X8_steps_77 ?_
              refine g_iinc F (lv' := [(4, vI (r + 1)), (3, vI (n + (rt x (ntF x r) w))), (5, vI (ntF x r)), (0, .ref (q 0)), (1, vI x), (2, vI w)]) 5 rfl rfl (by decide) rfl d_X8_steps_78 ?_
              refine g_goto F d_X8_steps_81 ?_
              have hn2 : (n + (rt x (ntF x r) w)) = smF (pSteps re rt x w) (r + 1).toNat := by
                rw [sm_toNat hr.1, ← hn]
                unfold pSteps
                first
                  | (rw [if_pos (by omega)]; done)
                  | (rw [if_neg (by omega), Int.add_zero]; done)
              have hm9 : Sm orows σ τ6 := by first | exact (hm.trans hm5).trans hm6 | exact hm.trans hm5
              have hR9 : RSt τ6 re rt := by first | exact hR6 | exact hR5
              refine G_sub (ks := [3, 4, 5, 1, 0]) rfl ?_
              exact ih24 (n + (rt x (ntF x r) w)) (r + 1) τ6 (by omega) hn2 hm9 hR9 (by omega)
      refine G_sub (ks := [2, 3, 4, 1, 0]) rfl ?_
      exact loop24 _ 0 0 σ (by omega) rfl (Sm.refl _ _) hR (Nat.lt_succ_self _)
    · refine g_bipush F (by decide) d_X8_steps_16 ?_
      exact hQ d_X8_steps_18 (⟨by unfold vSteps; rw [if_pos h4, if_neg h13], Sm.refl _ _, hR⟩)
  · refine g_iconst F d_X8_steps_7 ?_
    exact hQ d_X8_steps_8 (⟨by unfold vSteps; rw [if_neg h4], Sm.refl _ _, hR⟩)
set_option maxHeartbeats 1000000 in
theorem c_X8_unlike (l : Launch) (E : Ev) (q : Nat → Nat) (sh : List Shp) (σ : Sg) (hs : HsC sh) (x w o k : Int) (re rt : RF) (rx : rg x) (rw : rg w) (ro : rg o) (rk : rg k) (hR : RSt σ re rt) : CI l E yX8_unlike cX8_unlike 8 .int ({ frames := 6, cells := 0, slots := 0, locals := 139 } : Room) q sh σ [.ref (q 0), vI x, vI w, vI o, vI k] (fun z τ => z = vUn re x w o k ∧ Sm orows σ τ ∧ RSt τ re rt) := by
  have rx1 := rx.1
  have rx2 := rx.2
  have rw1 := rw.1
  have rw2 := rw.2
  have ro1 := ro.1
  have ro2 := ro.2
  have rk1 := rk.1
  have rk2 := rk.2
  refine CI_of (own := RX8) (by decide) rfl (Nat.le_of_ble_eq_true rfl) (fun X Q F hQ => ?_)
  show G X E 8 q sh σ 0 0 Q 0 [(0, .ref (q 0)), (1, vI x), (2, vI w), (3, vI o), (4, vI k)] []
  refine g_iload_n F 1 rfl rfl d_X8_unlike_0 ?_
  refine g_Si F (own := RX8) (c_X8_isFunction l E q sh σ x ⟨by omega, by omega⟩) k_X8_75 [] d_X8_unlike_1 ⟨rfl, rfl, by decide, by decide⟩ ⟨Nat.zero_le _, Nat.zero_le _⟩ rfl (Nat.le_of_ble_eq_true rfl) ?_
  rintro _ _ ⟨rfl, rfl⟩
  refine g_b_ne F d_X8_unlike_4 (fun h4 => ?_) (fun h4 => ?_)
  · refine g_iload_n F 2 rfl rfl d_X8_unlike_9 ?_
    refine g_Si F (own := RX8) (c_X8_isWay l E q sh σ w ⟨by omega, by omega⟩) k_X8_112 [] d_X8_unlike_10 ⟨rfl, rfl, by decide, by decide⟩ ⟨Nat.zero_le _, Nat.zero_le _⟩ rfl (Nat.le_of_ble_eq_true rfl) ?_
    rintro _ _ ⟨rfl, rfl⟩
    refine g_b_eq F d_X8_unlike_13 (fun h13 => ?_) (fun h13 => ?_)
    · refine g_bipush F (by decide) d_X8_unlike_34 ?_
      exact hQ d_X8_unlike_36 (⟨by unfold vUn; rw [if_pos h4, if_neg (by omega)], Sm.refl _ _, hR⟩)
    · refine g_iload_n F 3 rfl rfl d_X8_unlike_16 ?_
      refine g_Si F (own := RX8) (c_X8_isWay l E q sh σ o ⟨by omega, by omega⟩) k_X8_112 [] d_X8_unlike_17 ⟨rfl, rfl, by decide, by decide⟩ ⟨Nat.zero_le _, Nat.zero_le _⟩ rfl (Nat.le_of_ble_eq_true rfl) ?_
      rintro _ _ ⟨rfl, rfl⟩
      refine g_b_eq F d_X8_unlike_20 (fun h20 => ?_) (fun h20 => ?_)
      · refine g_bipush F (by decide) d_X8_unlike_34 ?_
        exact hQ d_X8_unlike_36 (⟨by unfold vUn; rw [if_pos h4, if_neg (by omega)], Sm.refl _ _, hR⟩)
      · refine g_iload F 4 rfl d_X8_unlike_23 ?_
        refine g_if_lt F d_X8_unlike_25 ⟨by omega, by omega⟩ (fun h25 => ?_) (fun h25 => ?_)
        · refine g_bipush F (by decide) d_X8_unlike_34 ?_
          exact hQ d_X8_unlike_36 (⟨by unfold vUn; rw [if_pos h4, if_neg (by omega)], Sm.refl _ _, hR⟩)
        · refine g_iload F 4 rfl d_X8_unlike_28 ?_
          refine g_iconst F d_X8_unlike_30 ?_
          refine g_icmp_le F d_X8_unlike_31 ⟨by omega, by omega⟩ ⟨by decide, by decide⟩ (fun h31 => ?_) (fun h31 => ?_)
          · have t2 := stV1_in h4
            refine g_iconst F d_X8_unlike_37 ?_
            refine g_istore F (lv' := [(5, vI 0), (0, .ref (q 0)), (1, vI x), (2, vI w), (3, vI o), (4, vI k)]) (by decide) rfl d_X8_unlike_38 ?_
            refine g_iconst F d_X8_unlike_40 ?_
            refine g_istore F (lv' := [(6, vI 0), (5, vI 0), (0, .ref (q 0)), (1, vI x), (2, vI w), (3, vI o), (4, vI k)]) (by decide) rfl d_X8_unlike_41 ?_
            have loop43 : ∀ (nn : Nat) (n : Int) (r : Int) (τ : Sg), (0 ≤ r ∧ r ≤ stV 1 x) → (k ≠ 1 → n = smF (pUn re x w o) r.toNat) → (k = 1 → fUn re x w o (stV 1 x - r).toNat r = fUn re x w o (stV 1 x).toNat 0) → (Sm orows σ τ) → (RSt τ re rt) → (stV 1 x - r).toNat < nn → G X E 8 q sh τ 0 0 Q 43 [(0, .ref (q 0)), (1, vI x), (2, vI w), (3, vI o), (4, vI k), (5, vI n), (6, vI r)] [] := by
              intro n43
              induction n43 with
              | zero => intro n r τ hr hn hf hm hR1 hm43; exact absurd hm43 (Nat.not_lt_zero _)
              | succ n43 ih43 =>
                intro n r τ hr hn hf hm hR1 hm43
                refine g_iload F 6 rfl d_X8_unlike_43 ?_
                refine g_gets F 1 (by decide) rfl (mg 521 (by decide +kernel) rfl) d_X8_unlike_45 ?_
                refine g_iload_n F 1 rfl rfl d_X8_unlike_48 ?_
                refine g_sald F 1 (by decide) (by omega) (by show _ < (4 : Int); omega) d_X8_unlike_49 ?_
                refine g_icmp_ge F d_X8_unlike_50 ⟨by omega, by omega⟩ ⟨by omega, by omega⟩ (fun h50 => ?_) (fun h50 => ?_)
                · refine g_iload F 4 rfl d_X8_unlike_106 ?_
                  refine g_iconst F d_X8_unlike_108 ?_
                  refine g_icmp_ne F d_X8_unlike_109 ⟨by omega, by omega⟩ ⟨by decide, by decide⟩ (fun h109 => ?_) (fun h109 => ?_)
                  · refine g_iload F 5 rfl d_X8_unlike_117 ?_
                    exact hQ d_X8_unlike_119 (⟨by unfold vUn; rw [if_pos h4, if_pos (by omega)]; first | (rw [if_pos h109, ← hf h109, show (stV 1 x - r).toNat = 0 by omega, fUn]; done) | (rw [if_neg h109, hn h109, show r = stV 1 x by omega]; done), hm, hR1⟩)
                  · refine g_bipush F (by decide) d_X8_unlike_112 ?_
                    refine g_goto F d_X8_unlike_114 ?_
                    exact hQ d_X8_unlike_119 (⟨by unfold vUn; rw [if_pos h4, if_pos (by omega)]; first | (rw [if_pos h109, ← hf h109, show (stV 1 x - r).toNat = 0 by omega, fUn]; done) | (rw [if_neg h109, hn h109, show r = stV 1 x by omega]; done), hm, hR1⟩)
                · have hin : inRun x r w := ⟨h4, by omega, h13⟩
                  have hin2 : inRun x r o := ⟨h4, by omega, h20⟩
                  have hb1 := (hR1.in hin).1
                  have hb2 := (hR1.in hin).2
                  have hb3 := (hR1.in hin2).1
                  have hb4 := (hR1.in hin2).2
                  refine g_aload_n F 0 rfl rfl d_X8_unlike_53 ?_
                  refine g_getR F f_X8_56 d_X8_unlike_54 (hsC_0 hs) rfl ?_
                  refine g_iload_n F 1 rfl rfl d_X8_unlike_57 ?_
                  refine g_iload F 6 rfl d_X8_unlike_58 ?_
                  refine g_iload_n F 2 rfl rfl d_X8_unlike_60 ?_
                  refine g_Vi F (own := RX8) (c_X3_of l E q sh τ hs x r w re rt hin hR1) k_X8_115 (hsC_20 hs) rfl rfl [] d_X8_unlike_61 ⟨rfl, rfl, by decide, by decide⟩ ⟨Nat.zero_le _, Nat.zero_le _⟩ rfl (Nat.le_of_ble_eq_true rfl) ?_
                  intro z5 τ5 hz5
                  obtain ⟨rfl, hm5, hR5⟩ := hz5
                  refine g_Si F (own := RX8) (c_X3_endIn l E q sh τ5 (rt x r w * 10 + re x r w) (by omega)) k_X8_119 [] d_X8_unlike_64 ⟨rfl, rfl, by decide, by decide⟩ ⟨Nat.zero_le _, Nat.zero_le _⟩ rfl (Nat.le_of_ble_eq_true rfl) ?_
                  rintro _ _ ⟨rfl, rfl⟩
                  refine G_top (b := re x r w) (run_e hb1 hb2) ?_
                  refine g_istore F (lv' := [(7, vI (re x r w)), (0, .ref (q 0)), (1, vI x), (2, vI w), (3, vI o), (4, vI k), (5, vI n), (6, vI r)]) (by decide) rfl d_X8_unlike_67 ?_
                  refine g_iload F 0 rfl d_X8_unlike_69 ?_
                  refine g_aload_n F 1 rfl rfl d_X8_unlike_71 ?_
                  refine g_getR F f_X8_56 d_X8_unlike_72 (hsC_0 hs) rfl ?_
                  refine g_iload_n F 2 rfl rfl d_X8_unlike_75 ?_
                  refine g_iload F 7 rfl d_X8_unlike_76 ?_
                  refine g_iload_n F 4 rfl rfl d_X8_unlike_78 ?_
                  refine g_Vi F (own := RX8) (c_X3_of l E q sh τ5 hs x r o re rt hin2 hR5) k_X8_115 (hsC_20 hs) rfl rfl [vI (re x r w)] d_X8_unlike_79 ⟨rfl, rfl, by decide, by decide⟩ ⟨Nat.zero_le _, Nat.zero_le _⟩ rfl (Nat.le_of_ble_eq_true rfl) ?_
                  intro z6 τ6 hz6
                  obtain ⟨rfl, hm6, hR6⟩ := hz6
                  refine g_Si F (own := RX8) (c_X3_endIn l E q sh τ6 (rt x r o * 10 + re x r o) (by omega)) k_X8_119 [vI (re x r w)] d_X8_unlike_82 ⟨rfl, rfl, by decide, by decide⟩ ⟨Nat.zero_le _, Nat.zero_le _⟩ rfl (Nat.le_of_ble_eq_true rfl) ?_
                  rintro _ _ ⟨rfl, rfl⟩
                  refine G_top (b := re x r o) (run_e hb3 hb4) ?_
                  refine g_icmp_eq F d_X8_unlike_85 ⟨by omega, by omega⟩ ⟨by omega, by omega⟩ (fun h85 => ?_) (fun h85 => ?_)
                  · refine g_iinc F (lv' := [(6, vI (r + 1)), (7, vI (re x r w)), (0, .ref (q 0)), (1, vI x), (2, vI w), (3, vI o), (4, vI k), (5, vI n)]) 7 rfl rfl (by decide) rfl d_X8_unlike_100 ?_
                    refine g_goto F d_X8_unlike_103 ?_
                    have hn2 : k ≠ 1 → n = smF (pUn re x w o) (r + 1).toNat := by
                      intro hk
                      rw [sm_toNat hr.1, ← hn hk]
                      unfold pUn
                      first
                        | (rw [if_pos h85, Int.add_zero]; done)
                        | (rw [if_neg h85]; done)
                    have hf2 : k = 1 → fUn re x w o (stV 1 x - (r + 1)).toNat (r + 1) = fUn re x w o (stV 1 x).toNat 0 := by
                      intro hk
                      first
                        | (rw [← hf hk, show (stV 1 x - r).toNat = (stV 1 x - (r + 1)).toNat + 1 by omega, fUn, if_pos h85]; done)
                        | (exact absurd hk h91)
                    refine G_sub (ks := [2, 3, 4, 5, 6, 7, 0]) rfl ?_
                    exact ih43 n (r + 1) τ6 (by omega) hn2 hf2 ((hm.trans hm5).trans hm6) hR6 (by omega)
                  · refine g_iload F 5 rfl d_X8_unlike_88 ?_
                    refine g_iconst F d_X8_unlike_90 ?_
                    refine g_icmp_ne F d_X8_unlike_91 ⟨by omega, by omega⟩ ⟨by decide, by decide⟩ (fun h91 => ?_) (fun h91 => ?_)
                    · refine g_iinc F (lv' := [(5, vI (n + 1)), (7, vI (re x r w)), (0, .ref (q 0)), (1, vI x), (2, vI w), (3, vI o), (4, vI k), (6, vI r)]) 6 rfl rfl (by decide) rfl d_X8_unlike_97 ?_
                      refine g_iinc F (lv' := [(6, vI (r + 1)), (5, vI (n + 1)), (7, vI (re x r w)), (0, .ref (q 0)), (1, vI x), (2, vI w), (3, vI o), (4, vI k)]) 7 rfl rfl (by decide) rfl d_X8_unlike_100 ?_
                      refine g_goto F d_X8_unlike_103 ?_
                      have hn2 : k ≠ 1 → (n + 1) = smF (pUn re x w o) (r + 1).toNat := by
                        intro hk
                        rw [sm_toNat hr.1, ← hn hk]
                        unfold pUn
                        first
                          | (rw [if_pos h85, Int.add_zero]; done)
                          | (rw [if_neg h85]; done)
                      have hf2 : k = 1 → fUn re x w o (stV 1 x - (r + 1)).toNat (r + 1) = fUn re x w o (stV 1 x).toNat 0 := by
                        intro hk
                        first
                          | (rw [← hf hk, show (stV 1 x - r).toNat = (stV 1 x - (r + 1)).toNat + 1 by omega, fUn, if_pos h85]; done)
                          | (exact absurd hk h91)
                      refine G_sub (ks := [3, 4, 5, 6, 7, 1, 0]) rfl ?_
                      exact ih43 (n + 1) (r + 1) τ6 (by omega) hn2 hf2 ((hm.trans hm5).trans hm6) hR6 (by omega)
                    · refine g_iload F 7 rfl d_X8_unlike_94 ?_
                      exact hQ d_X8_unlike_96 (⟨by unfold vUn; rw [if_pos h4, if_pos (by omega), if_pos h91, ← hf h91, show (stV 1 x - r).toNat = (stV 1 x - r - 1).toNat + 1 by omega, fUn, if_neg h85], (hm.trans hm5).trans hm6, hR6⟩)
            refine G_sub (ks := [2, 3, 4, 5, 6, 1, 0]) rfl ?_
            exact loop43 _ 0 0 σ (by omega) (fun _ => rfl) (fun _ => by rw [Int.sub_zero]) (Sm.refl _ _) hR (Nat.lt_succ_self _)
          · refine g_bipush F (by decide) d_X8_unlike_34 ?_
            exact hQ d_X8_unlike_36 (⟨by unfold vUn; rw [if_pos h4, if_neg (by omega)], Sm.refl _ _, hR⟩)
  · refine g_iconst F d_X8_unlike_7 ?_
    exact hQ d_X8_unlike_8 (⟨by unfold vUn; rw [if_neg h4], Sm.refl _ _, hR⟩)
set_option maxHeartbeats 1000000 in
theorem c_X8_matters (l : Launch) (E : Ev) (q : Nat → Nat) (sh : List Shp) (σ : Sg) (hs : HsC sh) (x y : Int) (re rt : RF) (rx : rg x) (ry : rg y) (hR : RSt σ re rt) : CI l E yX8_matters cX8_matters 7 .int ({ frames := 6, cells := 0, slots := 0, locals := 139 } : Room) q sh σ [.ref (q 0), vI x, vI y] (fun z τ => z = vMat re x y ∧ Sm orows σ τ ∧ RSt τ re rt) := by
  have rx1 := rx.1
  have rx2 := rx.2
  have ry1 := ry.1
  have ry2 := ry.2
  refine CI_of (own := RX8) (by decide) rfl (Nat.le_of_ble_eq_true rfl) (fun X Q F hQ => ?_)
  show G X E 7 q sh σ 0 0 Q 0 [(0, .ref (q 0)), (1, vI x), (2, vI y)] []
  refine g_iload_n F 1 rfl rfl d_X8_matters_0 ?_
  refine g_iload_n F 2 rfl rfl d_X8_matters_1 ?_
  refine g_Si F (own := RX8) (c_X8_hasArgument l E q sh σ x y ⟨by omega, by omega⟩ ⟨by omega, by omega⟩) k_X8_141 [] d_X8_matters_2 ⟨rfl, rfl, by decide, by decide⟩ ⟨Nat.zero_le _, Nat.zero_le _⟩ rfl (Nat.le_of_ble_eq_true rfl) ?_
  rintro _ _ ⟨rfl, rfl⟩
  refine g_b_ne F d_X8_matters_5 (fun h5 => ?_) (fun h5 => ?_)
  · have h4 := h5.1
    have t2 := stV2_in h4
    refine g_bipush F (by decide) d_X8_matters_10 ?_
    refine g_iload_n F 1 rfl rfl d_X8_matters_12 ?_
    refine g_iload_n F 2 rfl rfl d_X8_matters_13 ?_
    refine g_Si F (own := RX8) (c_X8_shiftOf l E q sh σ x y rx ry) k_X8_162 [vI 7] d_X8_matters_14 ⟨rfl, rfl, by decide, by decide⟩ ⟨Nat.zero_le _, Nat.zero_le _⟩ rfl (Nat.le_of_ble_eq_true rfl) ?_
    rintro _ _ ⟨rfl, rfl⟩
    refine g_ishl F d_X8_matters_17 ?_
    refine g_istore_n F (lv' := [(3, vI (bShl 7 (3 * (nA x - 1 - y)))), (0, .ref (q 0)), (1, vI x), (2, vI y)]) rfl (by decide) rfl d_X8_matters_18 ?_
    refine g_iconst F d_X8_matters_19 ?_
    refine g_istore F (lv' := [(4, vI 0), (3, vI (bShl 7 (3 * (nA x - 1 - y)))), (0, .ref (q 0)), (1, vI x), (2, vI y)]) (by decide) rfl d_X8_matters_20 ?_
    have loop22 : ∀ (nn : Nat) (r : Int) (τ : Sg), (0 ≤ r ∧ r ≤ stV 2 x) → (fMat re x y (stV 2 x - r).toNat r = fMat re x y (stV 2 x).toNat 0) → (Sm orows σ τ) → (RSt τ re rt) → (stV 2 x - r).toNat < nn → G X E 7 q sh τ 0 0 Q 22 [(0, .ref (q 0)), (1, vI x), (2, vI y), (3, vI (bShl 7 (3 * (nA x - 1 - y)))), (4, vI r)] [] := by
      intro n22
      induction n22 with
      | zero => intro r τ hr hf hm hR1 hm22; exact absurd hm22 (Nat.not_lt_zero _)
      | succ n22 ih22 =>
        intro r τ hr hf hm hR1 hm22
        refine g_iload F 4 rfl d_X8_matters_22 ?_
        refine g_gets F 2 (by decide) rfl (mg 679 (by decide +kernel) rfl) d_X8_matters_24 ?_
        refine g_iload_n F 1 rfl rfl d_X8_matters_27 ?_
        refine g_sald F 2 (by decide) (by omega) (by show _ < (4 : Int); omega) d_X8_matters_28 ?_
        refine g_icmp_ge F d_X8_matters_29 ⟨by omega, by omega⟩ ⟨by omega, by omega⟩ (fun h29 => ?_) (fun h29 => ?_)
        · refine g_iconst F d_X8_matters_91 ?_
          exact hQ d_X8_matters_92 (⟨by unfold vMat; rw [if_pos h5, ← hf, show (stV 2 x - r).toNat = 0 by omega, fMat], hm, hR1⟩)
        · have hin : inRun x (ntF x r) 1 := ⟨h4, ntF_in h4 r, by decide, by decide⟩
          have hin2 : inRun x (ntF x (bAnd r (dig x y))) 1 := ⟨h4, ntF_in h4 _, by decide, by decide⟩
          have hb1 := (hR1.in hin).1
          have hb2 := (hR1.in hin).2
          have hb3 := (hR1.in hin2).1
          have hb4 := (hR1.in hin2).2
          refine g_aload_n F 0 rfl rfl d_X8_matters_32 ?_
          refine g_getR F f_X8_56 d_X8_matters_33 (hsC_0 hs) rfl ?_
          refine g_iload_n F 1 rfl rfl d_X8_matters_36 ?_
          refine g_iload F 4 rfl d_X8_matters_37 ?_
          refine g_iload_n F 1 rfl rfl d_X8_matters_39 ?_
          refine g_Si F (own := RX8) (c_X8_numbersTold l E q sh τ r x h4) k_X8_156 [vI x, .ref (q 20)] d_X8_matters_40 ⟨rfl, rfl, by decide, by decide⟩ ⟨Nat.zero_le _, Nat.zero_le _⟩ rfl (Nat.le_of_ble_eq_true rfl) ?_
          rintro _ _ ⟨rfl, rfl⟩
          refine g_iconst F d_X8_matters_43 ?_
          refine g_Vi F (own := RX8) (c_X3_of l E q sh τ hs x (ntF x r) 1 re rt hin hR1) k_X8_115 (hsC_20 hs) rfl rfl [] d_X8_matters_44 ⟨rfl, rfl, by decide, by decide⟩ ⟨Nat.zero_le _, Nat.zero_le _⟩ rfl (Nat.le_of_ble_eq_true rfl) ?_
          intro z5 τ5 hz5
          obtain ⟨rfl, hm5, hR5⟩ := hz5
          refine g_istore F (lv' := [(5, vI (rt x (ntF x r) 1 * 10 + re x (ntF x r) 1)), (0, .ref (q 0)), (1, vI x), (2, vI y), (3, vI (bShl 7 (3 * (nA x - 1 - y)))), (4, vI r)]) (by decide) rfl d_X8_matters_47 ?_
          refine g_aload_n F 1 rfl rfl d_X8_matters_49 ?_
          refine g_getR F f_X8_56 d_X8_matters_50 (hsC_0 hs) rfl ?_
          refine g_iload_n F 2 rfl rfl d_X8_matters_53 ?_
          refine g_iload F 5 rfl d_X8_matters_54 ?_
          refine g_iload_n F 4 rfl rfl d_X8_matters_56 ?_
          refine g_iconst F d_X8_matters_57 ?_
          refine g_ixor F d_X8_matters_58 ?_
          refine g_iand F d_X8_matters_59 ?_
          refine g_iload_n F 2 rfl rfl d_X8_matters_60 ?_
          refine g_Si F (own := RX8) (c_X8_numbersTold l E q sh τ5 (bAnd r (bXor (bShl 7 (3 * (nA x - 1 - y))) (-1))) x h4) k_X8_156 [vI x, .ref (q 20)] d_X8_matters_61 ⟨rfl, rfl, by decide, by decide⟩ ⟨Nat.zero_le _, Nat.zero_le _⟩ rfl (Nat.le_of_ble_eq_true rfl) ?_
          rintro _ _ ⟨rfl, rfl⟩
          refine G_top (b := ntF x (bAnd r (dig x y))) (rfl) ?_
          refine g_iconst F d_X8_matters_64 ?_
          refine g_Vi F (own := RX8) (c_X3_of l E q sh τ5 hs x (ntF x (bAnd r (dig x y))) 1 re rt hin2 hR5) k_X8_115 (hsC_20 hs) rfl rfl [] d_X8_matters_65 ⟨rfl, rfl, by decide, by decide⟩ ⟨Nat.zero_le _, Nat.zero_le _⟩ rfl (Nat.le_of_ble_eq_true rfl) ?_
          intro z6 τ6 hz6
          obtain ⟨rfl, hm6, hR6⟩ := hz6
          refine g_istore F (lv' := [(6, vI (rt x (ntF x (bAnd r (dig x y))) 1 * 10 + re x (ntF x (bAnd r (dig x y))) 1)), (5, vI (rt x (ntF x r) 1 * 10 + re x (ntF x r) 1)), (0, .ref (q 0)), (1, vI x), (2, vI y), (3, vI (bShl 7 (3 * (nA x - 1 - y)))), (4, vI r)]) (by decide) rfl d_X8_matters_68 ?_
          refine g_iload F 1 rfl d_X8_matters_70 ?_
          refine g_Si F (own := RX8) (c_X3_endIn l E q sh τ6 (rt x (ntF x r) 1 * 10 + re x (ntF x r) 1) (by omega)) k_X8_119 [] d_X8_matters_72 ⟨rfl, rfl, by decide, by decide⟩ ⟨Nat.zero_le _, Nat.zero_le _⟩ rfl (Nat.le_of_ble_eq_true rfl) ?_
          rintro _ _ ⟨rfl, rfl⟩
          refine G_top (b := re x (ntF x r) 1) (run_e hb1 hb2) ?_
          refine g_iload F 0 rfl d_X8_matters_75 ?_
          refine g_Si F (own := RX8) (c_X3_endIn l E q sh τ6 (rt x (ntF x (bAnd r (dig x y))) 1 * 10 + re x (ntF x (bAnd r (dig x y))) 1) (by omega)) k_X8_119 [vI (re x (ntF x r) 1)] d_X8_matters_77 ⟨rfl, rfl, by decide, by decide⟩ ⟨Nat.zero_le _, Nat.zero_le _⟩ rfl (Nat.le_of_ble_eq_true rfl) ?_
          rintro _ _ ⟨rfl, rfl⟩
          refine G_top (b := re x (ntF x (bAnd r (dig x y))) 1) (run_e hb3 hb4) ?_
          refine g_icmp_eq F d_X8_matters_80 ⟨by omega, by omega⟩ ⟨by omega, by omega⟩ (fun h80 => ?_) (fun h80 => ?_)
          · refine g_iinc F (lv' := [(4, vI (r + 1)), (6, vI (rt x (ntF x (bAnd r (dig x y))) 1 * 10 + re x (ntF x (bAnd r (dig x y))) 1)), (5, vI (rt x (ntF x r) 1 * 10 + re x (ntF x r) 1)), (0, .ref (q 0)), (1, vI x), (2, vI y), (3, vI (bShl 7 (3 * (nA x - 1 - y))))]) 6 rfl rfl (by decide) rfl d_X8_matters_85 ?_
            refine g_goto F d_X8_matters_88 ?_
            refine G_sub (ks := [3, 4, 5, 6, 0]) rfl ?_
            exact ih22 (r + 1) τ6 (by omega) (by rw [← hf, show (stV 2 x - r).toNat = (stV 2 x - (r + 1)).toNat + 1 by omega, fMat, if_pos h80]) ((hm.trans hm5).trans hm6) hR6 (by omega)
          · refine g_iconst F d_X8_matters_83 ?_
            exact hQ d_X8_matters_84 (⟨by unfold vMat; rw [if_pos h5, ← hf, show (stV 2 x - r).toNat = (stV 2 x - r - 1).toNat + 1 by omega, fMat, if_neg h80], (hm.trans hm5).trans hm6, hR6⟩)
    refine G_sub (ks := [2, 3, 4, 1, 0]) rfl ?_
    exact loop22 _ 0 σ (by omega) (by rw [Int.sub_zero]) (Sm.refl _ _) hR (Nat.lt_succ_self _)
  · refine g_iconst F d_X8_matters_8 ?_
    exact hQ d_X8_matters_9 (⟨by unfold vMat; rw [if_neg h5], Sm.refl _ _, hR⟩)
