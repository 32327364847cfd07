set_option maxHeartbeats 4000000 in
set_option maxRecDepth 100000 in
theorem k_X11_sheet (l : Launch) {G : GT} {c : Nat → va_E} {n n1 rn tn n2 qn : Nat} {z hd sd fr tto tk wo iz : Int32} {im : Bool} (o1 : c 32 = .inr (9, [.ref (gad G 33), .ref (gad G 34), .ref (gad G 35), .int (nI n), .int (nI n1), .int z, .int hd, .int sd, .ref (gad G 36), .ref (gad G 37), .int (nI rn), .ref (gad G 38), .int (nI tn), .int fr, .int tto, .int tk, .int wo, .ref (gad G 39), .ref (gad G 40), .ref (gad G 41), .ref (gad G 42), .ref (gad G 43), .ref (gad G 44), .int (nI n2), .int (nI qn), .int iz, .int (bi im)])) {ss si it : Nat → Int32} (b1 : c 40 = .inl (gI G, 4, .inl ss)) (b2 : c 41 = .inl (gI G, 4, .inl si)) (b3 : c 42 = .inl (gI G, 160, .inl it)) {x so y : Int32} : Met l yX11_sheet (wv yX11_sheet cX11_sheet 5 (some .int)) ({ frames := 2, cells := 0, slots := 0, locals := 42 } : Room) (va_Pc [.ref (gad G 32), .int x, .int so, .int y] (fun U => Hw G c U U.heap)) (va_Qi (fun r (c9 : Nat → va_E) => ((isSh x && wn so (-1) 2) = false ∧ r = -2 ∧ c9 = c) ∨ (∃ j9, j9 < 4 ∧ x = nI j9 ∧ wn so (-1) 2 = true ∧ ((so = -1 ∧ r = 1 ∧ c9 = va_up (va_up (va_up c 40 (.inl (gI G, 4, .inl (upd ss j9 so)))) 41 (.inl (gI G, 4, .inl (upd si j9 (0))))) 42 (.inl (gI G, 160, .inl (itZ it j9 40)))) ∨ (so ≠ -1 ∧ 40 < y ∧ r = -2 ∧ c9 = c) ∨ (so ≠ -1 ∧ ¬ 40 < y ∧ y < 0 ∧ r = -14 ∧ c9 = c) ∨ (so ≠ -1 ∧ ∃ k8, k8 ≤ 40 ∧ y = nI k8 ∧ r = 1 ∧ c9 = va_up (va_up (va_up c 40 (.inl (gI G, 4, .inl (upd ss j9 so)))) 41 (.inl (gI G, 4, .inl (upd si j9 (nI k8))))) 42 (.inl (gI G, 160, .inl (itZ it j9 40))))))) (fun c9 t => Hw G c9 t t.heap) (gA G)) 0 0 (gA G) := by
  refine en (by decide +kernel) (by first | exact Nat.le_of_ble_eq_true rfl | decide) ?_
  intro p e s m below meth cd ls hx hb hr hml hown hts hlocks hnm hw hl
  have hl : lv_has ls 5 [(0, .ref (gad G 32)), (1, .int x), (2, .int so), (3, .int y)] := hl
  have hX : Sw G s s.heap := hw.2.2.2.2.2
  have hS : va_S (gA G) s.heap s.heap [] := va_S.rf
  obtain ⟨H, hH⟩ : ∃ wz9, wz9 = s.heap := ⟨_, rfl⟩
  obtain ⟨locs, hlocs⟩ : ∃ wz9 : List Loc, wz9 = [] := ⟨_, rfl⟩
  have hw : Hw G c s H := by rw [hH]; exact hw
  have hS : va_S (gA G) s.heap H locs := by rw [hH, hlocs]; exact hS
  suffices hgo : W p l e ({ frames := 2, cells := 0, slots := 0, locals := 42 } : Room) s m (([.ref (gad G 32), .int x, .int so, .int y] : List Value).toArray) below meth cd H locs 0 0 (MQ below (va_Qi (fun r (c9 : Nat → va_E) => ((isSh x && wn so (-1) 2) = false ∧ r = -2 ∧ c9 = c) ∨ (∃ j9, j9 < 4 ∧ x = nI j9 ∧ wn so (-1) 2 = true ∧ ((so = -1 ∧ r = 1 ∧ c9 = va_up (va_up (va_up c 40 (.inl (gI G, 4, .inl (upd ss j9 so)))) 41 (.inl (gI G, 4, .inl (upd si j9 (0))))) 42 (.inl (gI G, 160, .inl (itZ it j9 40)))) ∨ (so ≠ -1 ∧ 40 < y ∧ r = -2 ∧ c9 = c) ∨ (so ≠ -1 ∧ ¬ 40 < y ∧ y < 0 ∧ r = -14 ∧ c9 = c) ∨ (so ≠ -1 ∧ ∃ k8, k8 ≤ 40 ∧ y = nI k8 ∧ r = 1 ∧ c9 = va_up (va_up (va_up c 40 (.inl (gI G, 4, .inl (upd ss j9 so)))) 41 (.inl (gI G, 4, .inl (upd si j9 (nI k8))))) 42 (.inl (gI G, 160, .inl (itZ it j9 40))))))) (fun c9 t => Hw G c9 t t.heap) (gA G)) ([.ref (gad G 32), .int x, .int so, .int y] : List Value).toArray s 0 0 (gA G)) (F0 m 0 ls []) by rw [hH, hlocs] at hgo; exact hgo
  refine lv_iload_n hx hb dX11_sheet_0 rfl (lv_at hl 1 rfl) ?_
  refine cSe (rST (As := [_]) ⟨hx, hb, hml, hown, hts⟩ (k_X11_isSheet l ) (cv_X11_isSheet hts tw_1273 rfl rfl ⟨Nat.le_of_ble_eq_true rfl, Nat.le_of_ble_eq_true rfl⟩) rfl hl.1 rfl (by first | exact Nat.le_of_ble_eq_true rfl | decide) dX11_sheet_1 ⟨Nat.zero_le _, Nat.zero_le _⟩) ?_
  refine zb_eq (tgt := 27) hx hb dX11_sheet_4 (by decide) (fun c4 => ?_) (fun c4 => ?_)
  · refine lv_bipush (v := (-2)) hx hb dX11_sheet_27 (by decide) ?_
    exact re_Q hx hb hr hlocks (rfl) hw hS dX11_sheet_29 (Or.inl ⟨by simp [c4], rfl, rfl⟩)
  · refine lv_iload_n hx hb dX11_sheet_7 rfl (lv_at hl 2 rfl) ?_
    refine lv_iconst (v := (-1)) hx hb dX11_sheet_8 (by decide) ?_
    refine lv_iconst (v := 2) hx hb dX11_sheet_9 (by decide) ?_
    refine cSe (rST (As := [_, _, _]) ⟨hx, hb, hml, hown, hts⟩ (k_X11_in l ) (cv_X11_in hts tw_987 rfl rfl ⟨Nat.le_of_ble_eq_true rfl, Nat.le_of_ble_eq_true rfl⟩) rfl hl.1 rfl (by first | exact Nat.le_of_ble_eq_true rfl | decide) dX11_sheet_10 ⟨Nat.zero_le _, Nat.zero_le _⟩) ?_
    refine zb_eq (tgt := 27) hx hb dX11_sheet_13 (by decide) (fun c13 => ?_) (fun c13 => ?_)
    · refine lv_bipush (v := (-2)) hx hb dX11_sheet_27 (by decide) ?_
      exact re_Q hx hb hr hlocks (rfl) hw hS dX11_sheet_29 (Or.inl ⟨by simp [c4, c13], rfl, rfl⟩)
    · obtain ⟨s0, hs0, rfl⟩ := isSh_s c4
      refine lv_iload_n hx hb dX11_sheet_16 rfl (lv_at hl 2 rfl) ?_
      refine lv_iconst (v := (-1)) hx hb dX11_sheet_17 (by decide) ?_
      refine lv_icmp_eq (tgt := 30) hx hb dX11_sheet_18 (by decide) (fun c18 => ?_) (fun c18 => ?_)
      · refine lv_iload_n hx hb dX11_sheet_30 rfl (lv_at hl 2 rfl) ?_
        refine lv_iconst (v := (-1)) hx hb dX11_sheet_31 (by decide) ?_
        refine lv_icmp_eq (tgt := 42) hx hb dX11_sheet_32 (by decide) (fun c32 => ?_) (fun q => absurd (c18) q)
        skip
        refine lv_aload_n hx hb dX11_sheet_42 rfl (lv_at hl 0 rfl) ?_
        refine w_get (C := RX11) (T := TX11) (N := 27) 18 hx hb hts inX11 hown hw (by decide) o1 rfl (by decide) (hts _ tw_903) rfl dX11_sheet_43 ?_
        refine lv_iload_n hx hb dX11_sheet_46 rfl (lv_at hl 1 rfl) ?_
        refine lv_iload_n hx hb dX11_sheet_47 rfl (lv_at hl 2 rfl) ?_
        refine w_iastN (j := s0) (x := so) hx hb hw hX hS (by decide) b1 (rfl) (hs0) (by decide) dX11_sheet_48 (fun H locs hw hS => ?_)
        obtain ⟨w1, ew1⟩ : ∃ wz9 : Nat → va_E, wz9 = va_up c 40 (.inl (gI G, 4, .inl (upd ss (s0) (so)))) := ⟨_, rfl⟩
        have hw : Hw G w1 s H := by rw [ew1]; exact hw
        have o1_1 : w1 32 = .inr (9, [.ref (gad G 33), .ref (gad G 34), .ref (gad G 35), .int (nI n), .int (nI n1), .int z, .int hd, .int sd, .ref (gad G 36), .ref (gad G 37), .int (nI rn), .ref (gad G 38), .int (nI tn), .int fr, .int tto, .int tk, .int wo, .ref (gad G 39), .ref (gad G 40), .ref (gad G 41), .ref (gad G 42), .ref (gad G 43), .ref (gad G 44), .int (nI n2), .int (nI qn), .int iz, .int (bi im)]) := by rw [ew1]; exact vu_e (by decide) o1
        have b1_1 : w1 40 = .inl (gI G, 4, .inl (upd ss (s0) (so))) := by rw [ew1]; exact vu_s
        have b2_1 : w1 41 = .inl (gI G, 4, .inl si) := by rw [ew1]; exact vu_e (by decide) b2
        have b3_1 : w1 42 = .inl (gI G, 160, .inl it) := by rw [ew1]; exact vu_e (by decide) b3
        refine lv_aload_n hx hb dX11_sheet_49 rfl (lv_at hl 0 rfl) ?_
        refine w_get (C := RX11) (T := TX11) (N := 27) 19 hx hb hts inX11 hown hw (by decide) o1_1 rfl (by decide) (hts _ tw_904) rfl dX11_sheet_50 ?_
        refine lv_iload_n hx hb dX11_sheet_53 rfl (lv_at hl 1 rfl) ?_
        refine lv_iload_n hx hb dX11_sheet_54 rfl (lv_at hl 2 rfl) ?_
        refine lv_iconst (v := (-1)) hx hb dX11_sheet_55 (by decide) ?_
        refine lv_icmp_ne (tgt := 63) hx hb dX11_sheet_56 (by decide) (fun q => absurd (c18) q) (fun c56 => ?_)
        refine lv_iconst (v := 0) hx hb dX11_sheet_59 (by decide) ?_
        refine lv_goto (tgt := 64) hx hb dX11_sheet_60 (by decide) ?_
        refine w_iastN (j := s0) (x := 0) hx hb hw hX hS (by decide) b2_1 (rfl) (hs0) (by decide) dX11_sheet_64 (fun H locs hw hS => ?_)
        obtain ⟨w2, ew2⟩ : ∃ wz9 : Nat → va_E, wz9 = va_up w1 41 (.inl (gI G, 4, .inl (upd si (s0) (0)))) := ⟨_, rfl⟩
        have hw : Hw G w2 s H := by rw [ew2]; exact hw
        have o1_2 : w2 32 = .inr (9, [.ref (gad G 33), .ref (gad G 34), .ref (gad G 35), .int (nI n), .int (nI n1), .int z, .int hd, .int sd, .ref (gad G 36), .ref (gad G 37), .int (nI rn), .ref (gad G 38), .int (nI tn), .int fr, .int tto, .int tk, .int wo, .ref (gad G 39), .ref (gad G 40), .ref (gad G 41), .ref (gad G 42), .ref (gad G 43), .ref (gad G 44), .int (nI n2), .int (nI qn), .int iz, .int (bi im)]) := by rw [ew2]; exact vu_e (by decide) o1_1
        have b1_2 : w2 40 = .inl (gI G, 4, .inl (upd ss (s0) (so))) := by rw [ew2]; exact vu_e (by decide) b1_1
        have b2_2 : w2 41 = .inl (gI G, 4, .inl (upd si (s0) (0))) := by rw [ew2]; exact vu_s
        have b3_2 : w2 42 = .inl (gI G, 160, .inl it) := by rw [ew2]; exact vu_e (by decide) b3_1
        refine lv_iconst (v := 0) hx hb dX11_sheet_65 (by decide) ?_
        refine lv_istore (lv' := [(4, _), (0, _), (1, _), (2, _), (3, _)]) hx hb dX11_sheet_66 hl (by decide) rfl (fun ls hl => ?_)
        have L68 : ∀ (N : Nat) (i : Nat) (fz : Nat → Int32), (i + N = 40) → (fz = itZ it s0 i) → ∀ (c0 : Nat → va_E) (H : Heap) (locs : List Loc), (c0 = va_up (va_up (va_up c 40 (.inl (gI G, 4, .inl (upd ss s0 so)))) 41 (.inl (gI G, 4, .inl (upd si s0 (0))))) 42 (.inl (gI G, 160, .inl fz))) → Hw G c0 s H → va_S (gA G) s.heap H locs → ∀ ls : Array Slot, lv_has ls 5 [(4, .int (nI i)), (3, .int y), (2, .int so), (1, .int (nI s0)), (0, .ref (gad G 32))] → W p l e ({ frames := 2, cells := 0, slots := 0, locals := 42 } : Room) s m (([.ref (gad G 32), .int (nI s0), .int so, .int y] : List Value).toArray) below meth cd H locs 0 0 (MQ below (va_Qi (fun r (c9 : Nat → va_E) => ((isSh (nI s0) && wn so (-1) 2) = false ∧ r = -2 ∧ c9 = c) ∨ (∃ j9, j9 < 4 ∧ (nI s0) = nI j9 ∧ wn so (-1) 2 = true ∧ ((so = -1 ∧ r = 1 ∧ c9 = va_up (va_up (va_up c 40 (.inl (gI G, 4, .inl (upd ss j9 so)))) 41 (.inl (gI G, 4, .inl (upd si j9 (0))))) 42 (.inl (gI G, 160, .inl (itZ it j9 40)))) ∨ (so ≠ -1 ∧ 40 < y ∧ r = -2 ∧ c9 = c) ∨ (so ≠ -1 ∧ ¬ 40 < y ∧ y < 0 ∧ r = -14 ∧ c9 = c) ∨ (so ≠ -1 ∧ ∃ k8, k8 ≤ 40 ∧ y = nI k8 ∧ r = 1 ∧ c9 = va_up (va_up (va_up c 40 (.inl (gI G, 4, .inl (upd ss j9 so)))) 41 (.inl (gI G, 4, .inl (upd si j9 (nI k8))))) 42 (.inl (gI G, 160, .inl (itZ it j9 40))))))) (fun c9 t => Hw G c9 t t.heap) (gA G)) ([.ref (gad G 32), .int (nI s0), .int so, .int y] : List Value).toArray s 0 0 (gA G)) (F0 m 68 ls []) := by
          intro N
          induction N with
          | zero =>
            intro i  fz  hN hz c0 H locs e0 hw hS ls hl
            obtain rfl : i = 40 := by omega
            refine lv_iload hx hb dX11_sheet_68 (lv_at hl 0 rfl) ?_
            refine lv_bipush (v := 40) hx hb dX11_sheet_70 (by decide) ?_
            refine lv_icmp_ge (tgt := 94) hx hb dX11_sheet_72 (by decide) (fun c72 => ?_) (fun q => absurd (by decide) q)
            refine lv_iconst (v := 1) hx hb dX11_sheet_94 (by decide) ?_
            exact re_Q hx hb hr hlocks (rfl) hw hS dX11_sheet_95 (Or.inr ⟨s0, hs0, rfl, c13, Or.inl ⟨c18, rfl, by rw [e0, hz]⟩⟩)
          | succ N ih =>
            intro i  fz  hN hz c0 H locs e0 hw hS ls hl
            have o1 : c0 32 = .inr (9, [.ref (gad G 33), .ref (gad G 34), .ref (gad G 35), .int (nI n), .int (nI n1), .int z, .int hd, .int sd, .ref (gad G 36), .ref (gad G 37), .int (nI rn), .ref (gad G 38), .int (nI tn), .int fr, .int tto, .int tk, .int wo, .ref (gad G 39), .ref (gad G 40), .ref (gad G 41), .ref (gad G 42), .ref (gad G 43), .ref (gad G 44), .int (nI n2), .int (nI qn), .int iz, .int (bi im)]) := by rw [e0]; exact vu_e (by decide) (vu_e (by decide) (vu_e (by decide) o1))
            have b3 : c0 42 = .inl (gI G, 160, .inl fz) := by rw [e0]; exact vu_s
            refine lv_iload hx hb dX11_sheet_68 (lv_at hl 0 rfl) ?_
            refine lv_bipush (v := 40) hx hb dX11_sheet_70 (by decide) ?_
            refine lv_icmp_ge (tgt := 94) hx hb dX11_sheet_72 (by decide) (fun q => absurd q (nI_ge (b := 40) (by omega) (by omega))) (fun c72 => ?_)
            refine lv_aload_n hx hb dX11_sheet_75 rfl (lv_at hl 4 rfl) ?_
            refine w_get (C := RX11) (T := TX11) (N := 27) 20 hx hb hts inX11 hown hw (by decide) o1 rfl (by decide) (hts _ tw_905) rfl dX11_sheet_76 ?_
            refine lv_bipush (v := 40) hx hb dX11_sheet_79 (by decide) ?_
            refine lv_iload_n hx hb dX11_sheet_81 rfl (lv_at hl 3 rfl) ?_
            refine lv_imul hx hb dX11_sheet_82 ?_
            refine lv_iload hx hb dX11_sheet_83 (lv_at hl 0 rfl) ?_
            refine lv_iadd hx hb dX11_sheet_85 ?_
            refine lv_iconst (v := 0) hx hb dX11_sheet_86 (by decide) ?_
            refine w_iastN (j := s0 * 40 + i) (x := 0) hx hb hw hX hS (by decide) b3 (ixm40 s0 i) (by omega) (by decide) dX11_sheet_87 (fun H locs hw hS => ?_)
            obtain ⟨w3, ew3⟩ : ∃ wz9 : Nat → va_E, wz9 = va_up c0 42 (.inl (gI G, 160, .inl (upd fz (s0 * 40 + i) (0)))) := ⟨_, rfl⟩
            have hw : Hw G w3 s H := by rw [ew3]; exact hw
            have o1_3 : w3 32 = .inr (9, [.ref (gad G 33), .ref (gad G 34), .ref (gad G 35), .int (nI n), .int (nI n1), .int z, .int hd, .int sd, .ref (gad G 36), .ref (gad G 37), .int (nI rn), .ref (gad G 38), .int (nI tn), .int fr, .int tto, .int tk, .int wo, .ref (gad G 39), .ref (gad G 40), .ref (gad G 41), .ref (gad G 42), .ref (gad G 43), .ref (gad G 44), .int (nI n2), .int (nI qn), .int iz, .int (bi im)]) := by rw [ew3]; exact vu_e (by decide) o1
            have b3_3 : w3 42 = .inl (gI G, 160, .inl (upd fz (s0 * 40 + i) (0))) := by rw [ew3]; exact vu_s
            refine lv_iinc (v := nI (i + 1)) (lv' := [(4, _), (3, _), (2, _), (1, _), (0, _)]) hx hb dX11_sheet_88 hl (k := 0) rfl (inc1 i) (by decide) rfl (fun ls hl => ?_)
            refine lv_goto (tgt := 68) hx hb dX11_sheet_91 (by decide) ?_
            exact ih (i + 1) (itZ it s0 (i + 1)) (by omega) rfl _ H locs (by rw [ew3, e0, up_up, hz, itZ_s]) hw hS ls (lv_sub hl [0, 1, 2, 3, 4] rfl)
        exact L68 40 0 it (by omega) (itZ_0 it s0).symm _ H locs (by rw [ew2, ew1]; exact (up_id (by rw [vu_n (by decide), vu_n (by decide)]; exact b3)).symm) hw hS ls (lv_sub hl [0, 4, 3, 2, 1] rfl)
      · refine lv_iload_n hx hb dX11_sheet_21 rfl (lv_at hl 3 rfl) ?_
        refine lv_bipush (v := 40) hx hb dX11_sheet_22 (by decide) ?_
        refine lv_icmp_le (tgt := 30) hx hb dX11_sheet_24 (by decide) (fun c24 => ?_) (fun c24 => ?_)
        · refine lv_iload_n hx hb dX11_sheet_30 rfl (lv_at hl 2 rfl) ?_
          refine lv_iconst (v := (-1)) hx hb dX11_sheet_31 (by decide) ?_
          refine lv_icmp_eq (tgt := 42) hx hb dX11_sheet_32 (by decide) (fun q => absurd q (c18)) (fun c32 => ?_)
          refine lv_iload_n hx hb dX11_sheet_35 rfl (lv_at hl 3 rfl) ?_
          refine lv_if_ge (tgt := 42) hx hb dX11_sheet_36 (by decide) (fun c36 => ?_) (fun c36 => ?_)
          · obtain ⟨k, hk9, rfl⟩ : ∃ k, k ≤ 40 ∧ y = nI k := by
              rcases pk_ix y (n := 41) (by omega) with z | z | ⟨q, z, e⟩
              · exact absurd z (Int32.not_lt.mpr c36)
              · exact absurd (Int32.lt_of_lt_of_le (show (40 : Int32) < nI 41 by decide) z) (Int32.not_lt.mpr c24)
              · exact ⟨q, by omega, e⟩
            refine lv_aload_n hx hb dX11_sheet_42 rfl (lv_at hl 0 rfl) ?_
            refine w_get (C := RX11) (T := TX11) (N := 27) 18 hx hb hts inX11 hown hw (by decide) o1 rfl (by decide) (hts _ tw_903) rfl dX11_sheet_43 ?_
            refine lv_iload_n hx hb dX11_sheet_46 rfl (lv_at hl 1 rfl) ?_
            refine lv_iload_n hx hb dX11_sheet_47 rfl (lv_at hl 2 rfl) ?_
            refine w_iastN (j := s0) (x := so) hx hb hw hX hS (by decide) b1 (rfl) (hs0) (by decide) dX11_sheet_48 (fun H locs hw hS => ?_)
            obtain ⟨w4, ew4⟩ : ∃ wz9 : Nat → va_E, wz9 = va_up c 40 (.inl (gI G, 4, .inl (upd ss (s0) (so)))) := ⟨_, rfl⟩
            have hw : Hw G w4 s H := by rw [ew4]; exact hw
            have o1_4 : w4 32 = .inr (9, [.ref (gad G 33), .ref (gad G 34), .ref (gad G 35), .int (nI n), .int (nI n1), .int z, .int hd, .int sd, .ref (gad G 36), .ref (gad G 37), .int (nI rn), .ref (gad G 38), .int (nI tn), .int fr, .int tto, .int tk, .int wo, .ref (gad G 39), .ref (gad G 40), .ref (gad G 41), .ref (gad G 42), .ref (gad G 43), .ref (gad G 44), .int (nI n2), .int (nI qn), .int iz, .int (bi im)]) := by rw [ew4]; exact vu_e (by decide) o1
            have b1_4 : w4 40 = .inl (gI G, 4, .inl (upd ss (s0) (so))) := by rw [ew4]; exact vu_s
            have b2_4 : w4 41 = .inl (gI G, 4, .inl si) := by rw [ew4]; exact vu_e (by decide) b2
            have b3_4 : w4 42 = .inl (gI G, 160, .inl it) := by rw [ew4]; exact vu_e (by decide) b3
            refine lv_aload_n hx hb dX11_sheet_49 rfl (lv_at hl 0 rfl) ?_
            refine w_get (C := RX11) (T := TX11) (N := 27) 19 hx hb hts inX11 hown hw (by decide) o1_4 rfl (by decide) (hts _ tw_904) rfl dX11_sheet_50 ?_
            refine lv_iload_n hx hb dX11_sheet_53 rfl (lv_at hl 1 rfl) ?_
            refine lv_iload_n hx hb dX11_sheet_54 rfl (lv_at hl 2 rfl) ?_
            refine lv_iconst (v := (-1)) hx hb dX11_sheet_55 (by decide) ?_
            refine lv_icmp_ne (tgt := 63) hx hb dX11_sheet_56 (by decide) (fun c56 => ?_) (fun q => absurd q (c18))
            refine lv_iload_n hx hb dX11_sheet_63 rfl (lv_at hl 3 rfl) ?_
            refine w_iastN (j := s0) (x := nI k) hx hb hw hX hS (by decide) b2_4 (rfl) (hs0) (by decide) dX11_sheet_64 (fun H locs hw hS => ?_)
            obtain ⟨w5, ew5⟩ : ∃ wz9 : Nat → va_E, wz9 = va_up w4 41 (.inl (gI G, 4, .inl (upd si (s0) (nI k)))) := ⟨_, rfl⟩
            have hw : Hw G w5 s H := by rw [ew5]; exact hw
            have o1_5 : w5 32 = .inr (9, [.ref (gad G 33), .ref (gad G 34), .ref (gad G 35), .int (nI n), .int (nI n1), .int z, .int hd, .int sd, .ref (gad G 36), .ref (gad G 37), .int (nI rn), .ref (gad G 38), .int (nI tn), .int fr, .int tto, .int tk, .int wo, .ref (gad G 39), .ref (gad G 40), .ref (gad G 41), .ref (gad G 42), .ref (gad G 43), .ref (gad G 44), .int (nI n2), .int (nI qn), .int iz, .int (bi im)]) := by rw [ew5]; exact vu_e (by decide) o1_4
            have b1_5 : w5 40 = .inl (gI G, 4, .inl (upd ss (s0) (so))) := by rw [ew5]; exact vu_e (by decide) b1_4
            have b2_5 : w5 41 = .inl (gI G, 4, .inl (upd si (s0) (nI k))) := by rw [ew5]; exact vu_s
            have b3_5 : w5 42 = .inl (gI G, 160, .inl it) := by rw [ew5]; exact vu_e (by decide) b3_4
            refine lv_iconst (v := 0) hx hb dX11_sheet_65 (by decide) ?_
            refine lv_istore (lv' := [(4, _), (0, _), (1, _), (2, _), (3, _)]) hx hb dX11_sheet_66 hl (by decide) rfl (fun ls hl => ?_)
            have L68 : ∀ (N : Nat) (i : Nat) (fz : Nat → Int32), (i + N = 40) → (fz = itZ it s0 i) → ∀ (c0 : Nat → va_E) (H : Heap) (locs : List Loc), (c0 = va_up (va_up (va_up c 40 (.inl (gI G, 4, .inl (upd ss s0 so)))) 41 (.inl (gI G, 4, .inl (upd si s0 (nI k))))) 42 (.inl (gI G, 160, .inl fz))) → Hw G c0 s H → va_S (gA G) s.heap H locs → ∀ ls : Array Slot, lv_has ls 5 [(4, .int (nI i)), (3, .int (nI k)), (2, .int so), (1, .int (nI s0)), (0, .ref (gad G 32))] → W p l e ({ frames := 2, cells := 0, slots := 0, locals := 42 } : Room) s m (([.ref (gad G 32), .int (nI s0), .int so, .int (nI k)] : List Value).toArray) below meth cd H locs 0 0 (MQ below (va_Qi (fun r (c9 : Nat → va_E) => ((isSh (nI s0) && wn so (-1) 2) = false ∧ r = -2 ∧ c9 = c) ∨ (∃ j9, j9 < 4 ∧ (nI s0) = nI j9 ∧ wn so (-1) 2 = true ∧ ((so = -1 ∧ r = 1 ∧ c9 = va_up (va_up (va_up c 40 (.inl (gI G, 4, .inl (upd ss j9 so)))) 41 (.inl (gI G, 4, .inl (upd si j9 (0))))) 42 (.inl (gI G, 160, .inl (itZ it j9 40)))) ∨ (so ≠ -1 ∧ 40 < (nI k) ∧ r = -2 ∧ c9 = c) ∨ (so ≠ -1 ∧ ¬ 40 < (nI k) ∧ (nI k) < 0 ∧ r = -14 ∧ c9 = c) ∨ (so ≠ -1 ∧ ∃ k8, k8 ≤ 40 ∧ (nI k) = nI k8 ∧ r = 1 ∧ c9 = va_up (va_up (va_up c 40 (.inl (gI G, 4, .inl (upd ss j9 so)))) 41 (.inl (gI G, 4, .inl (upd si j9 (nI k8))))) 42 (.inl (gI G, 160, .inl (itZ it j9 40))))))) (fun c9 t => Hw G c9 t t.heap) (gA G)) ([.ref (gad G 32), .int (nI s0), .int so, .int (nI k)] : List Value).toArray s 0 0 (gA G)) (F0 m 68 ls []) := by
              intro N
              induction N with
              | zero =>
                intro i  fz  hN hz c0 H locs e0 hw hS ls hl
                obtain rfl : i = 40 := by omega
                refine lv_iload hx hb dX11_sheet_68 (lv_at hl 0 rfl) ?_
                refine lv_bipush (v := 40) hx hb dX11_sheet_70 (by decide) ?_
                refine lv_icmp_ge (tgt := 94) hx hb dX11_sheet_72 (by decide) (fun c72 => ?_) (fun q => absurd (by decide) q)
                refine lv_iconst (v := 1) hx hb dX11_sheet_94 (by decide) ?_
                exact re_Q hx hb hr hlocks (rfl) hw hS dX11_sheet_95 (Or.inr ⟨s0, hs0, rfl, c13, Or.inr (Or.inr (Or.inr ⟨c18, k, hk9, rfl, rfl, by rw [e0, hz]⟩))⟩)
              | succ N ih =>
                intro i  fz  hN hz c0 H locs e0 hw hS ls hl
                have o1 : c0 32 = .inr (9, [.ref (gad G 33), .ref (gad G 34), .ref (gad G 35), .int (nI n), .int (nI n1), .int z, .int hd, .int sd, .ref (gad G 36), .ref (gad G 37), .int (nI rn), .ref (gad G 38), .int (nI tn), .int fr, .int tto, .int tk, .int wo, .ref (gad G 39), .ref (gad G 40), .ref (gad G 41), .ref (gad G 42), .ref (gad G 43), .ref (gad G 44), .int (nI n2), .int (nI qn), .int iz, .int (bi im)]) := by rw [e0]; exact vu_e (by decide) (vu_e (by decide) (vu_e (by decide) o1))
                have b3 : c0 42 = .inl (gI G, 160, .inl fz) := by rw [e0]; exact vu_s
                refine lv_iload hx hb dX11_sheet_68 (lv_at hl 0 rfl) ?_
                refine lv_bipush (v := 40) hx hb dX11_sheet_70 (by decide) ?_
                refine lv_icmp_ge (tgt := 94) hx hb dX11_sheet_72 (by decide) (fun q => absurd q (nI_ge (b := 40) (by omega) (by omega))) (fun c72 => ?_)
                refine lv_aload_n hx hb dX11_sheet_75 rfl (lv_at hl 4 rfl) ?_
                refine w_get (C := RX11) (T := TX11) (N := 27) 20 hx hb hts inX11 hown hw (by decide) o1 rfl (by decide) (hts _ tw_905) rfl dX11_sheet_76 ?_
                refine lv_bipush (v := 40) hx hb dX11_sheet_79 (by decide) ?_
                refine lv_iload_n hx hb dX11_sheet_81 rfl (lv_at hl 3 rfl) ?_
                refine lv_imul hx hb dX11_sheet_82 ?_
                refine lv_iload hx hb dX11_sheet_83 (lv_at hl 0 rfl) ?_
                refine lv_iadd hx hb dX11_sheet_85 ?_
                refine lv_iconst (v := 0) hx hb dX11_sheet_86 (by decide) ?_
                refine w_iastN (j := s0 * 40 + i) (x := 0) hx hb hw hX hS (by decide) b3 (ixm40 s0 i) (by omega) (by decide) dX11_sheet_87 (fun H locs hw hS => ?_)
                obtain ⟨w6, ew6⟩ : ∃ wz9 : Nat → va_E, wz9 = va_up c0 42 (.inl (gI G, 160, .inl (upd fz (s0 * 40 + i) (0)))) := ⟨_, rfl⟩
                have hw : Hw G w6 s H := by rw [ew6]; exact hw
                have o1_6 : w6 32 = .inr (9, [.ref (gad G 33), .ref (gad G 34), .ref (gad G 35), .int (nI n), .int (nI n1), .int z, .int hd, .int sd, .ref (gad G 36), .ref (gad G 37), .int (nI rn), .ref (gad G 38), .int (nI tn), .int fr, .int tto, .int tk, .int wo, .ref (gad G 39), .ref (gad G 40), .ref (gad G 41), .ref (gad G 42), .ref (gad G 43), .ref (gad G 44), .int (nI n2), .int (nI qn), .int iz, .int (bi im)]) := by rw [ew6]; exact vu_e (by decide) o1
                have b3_6 : w6 42 = .inl (gI G, 160, .inl (upd fz (s0 * 40 + i) (0))) := by rw [ew6]; exact vu_s
                refine lv_iinc (v := nI (i + 1)) (lv' := [(4, _), (3, _), (2, _), (1, _), (0, _)]) hx hb dX11_sheet_88 hl (k := 0) rfl (inc1 i) (by decide) rfl (fun ls hl => ?_)
                refine lv_goto (tgt := 68) hx hb dX11_sheet_91 (by decide) ?_
                exact ih (i + 1) (itZ it s0 (i + 1)) (by omega) rfl _ H locs (by rw [ew6, e0, up_up, hz, itZ_s]) hw hS ls (lv_sub hl [0, 1, 2, 3, 4] rfl)
            exact L68 40 0 it (by omega) (itZ_0 it s0).symm _ H locs (by rw [ew5, ew4]; exact (up_id (by rw [vu_n (by decide), vu_n (by decide)]; exact b3)).symm) hw hS ls (lv_sub hl [0, 4, 3, 2, 1] rfl)
          · refine lv_bipush (v := (-14)) hx hb dX11_sheet_39 (by decide) ?_
            exact re_Q hx hb hr hlocks (rfl) hw hS dX11_sheet_41 (Or.inr ⟨s0, hs0, rfl, c13, Or.inr (Or.inr (Or.inl ⟨c18, Int32.not_lt.mpr c24, Int32.not_le.mp c36, rfl, rfl⟩))⟩)
        · refine lv_bipush (v := (-2)) hx hb dX11_sheet_27 (by decide) ?_
          exact re_Q hx hb hr hlocks (rfl) hw hS dX11_sheet_29 (Or.inr ⟨s0, hs0, rfl, c13, Or.inr (Or.inl ⟨c18, Int32.not_le.mp c24, rfl, rfl⟩)⟩)
set_option maxHeartbeats 4000000 in
set_option maxRecDepth 100000 in
theorem k_X11_wrongAt (l : Launch) {G : GT} {c : Nat → va_E} {n n1 rn tn n2 qn : Nat} {z hd sd fr tto tk wo iz : Int32} {im : Bool} (o1 : c 32 = .inr (9, [.ref (gad G 33), .ref (gad G 34), .ref (gad G 35), .int (nI n), .int (nI n1), .int z, .int hd, .int sd, .ref (gad G 36), .ref (gad G 37), .int (nI rn), .ref (gad G 38), .int (nI tn), .int fr, .int tto, .int tk, .int wo, .ref (gad G 39), .ref (gad G 40), .ref (gad G 41), .ref (gad G 42), .ref (gad G 43), .ref (gad G 44), .int (nI n2), .int (nI qn), .int iz, .int (bi im)])) {ss si it : Nat → Int32} (b1 : c 40 = .inl (gI G, 4, .inl ss)) (b2 : c 41 = .inl (gI G, 4, .inl si)) (b3 : c 42 = .inl (gI G, 160, .inl it)) {x y : Int32} : Met l yX11_wrongAt (wv yX11_wrongAt cX11_wrongAt 3 (some .int)) ({ frames := 2, cells := 0, slots := 0, locals := 42 } : Room) (va_Pc [.ref (gad G 32), .int x, .int y] (fun U => Hw G c U U.heap)) (vp_Si (fun r => (isSh x = false ∧ r = -2) ∨ (∃ j9, j9 < 4 ∧ x = nI j9 ∧ ((ss j9 = -1 ∧ r = -11) ∨ (ss j9 ≠ -1 ∧ wn y 0 (si j9 - 1) = false ∧ r = -12) ∨ (ss j9 ≠ -1 ∧ wn y 0 (si j9 - 1) = true ∧ r = 0))))) 0 0 (fun _ => False) := by
  refine en (by decide +kernel) (by first | exact Nat.le_of_ble_eq_true rfl | decide) ?_
  intro p e s m below meth cd ls hx hb hr hml hown hts hlocks hnm hw hl
  have hl : lv_has ls 3 [(0, .ref (gad G 32)), (1, .int x), (2, .int y)] := hl
  refine lv_iload_n hx hb dX11_wrongAt_0 rfl (lv_at hl 1 rfl) ?_
  refine cSe (rST (As := [_]) ⟨hx, hb, hml, hown, hts⟩ (k_X11_isSheet l ) (cv_X11_isSheet hts tw_1273 rfl rfl ⟨Nat.le_of_ble_eq_true rfl, Nat.le_of_ble_eq_true rfl⟩) rfl hl.1 rfl (by first | exact Nat.le_of_ble_eq_true rfl | decide) dX11_wrongAt_1 ⟨Nat.zero_le _, Nat.zero_le _⟩) ?_
  refine zb_ne (tgt := 12) hx hb dX11_wrongAt_4 (by decide) (fun c4 => ?_) (fun c4 => ?_)
  · obtain ⟨s0, hs0, rfl⟩ := isSh_s c4
    refine lv_aload_n hx hb dX11_wrongAt_12 rfl (lv_at hl 0 rfl) ?_
    refine w_get (C := RX11) (T := TX11) (N := 27) 18 hx hb hts inX11 hown hw (by decide) o1 rfl (by decide) (hts _ tw_903) rfl dX11_wrongAt_13 ?_
    refine lv_iload_n hx hb dX11_wrongAt_16 rfl (lv_at hl 1 rfl) ?_
    refine w_ialdN (j := s0) hx hb hw (by decide) b1 (rfl) (hs0) (by decide) dX11_wrongAt_17 ?_
    refine lv_iconst (v := (-1)) hx hb dX11_wrongAt_18 (by decide) ?_
    refine lv_icmp_ne (tgt := 27) hx hb dX11_wrongAt_19 (by decide) (fun c19 => ?_) (fun c19 => ?_)
    · refine lv_iload_n hx hb dX11_wrongAt_27 rfl (lv_at hl 2 rfl) ?_
      refine lv_iconst (v := 0) hx hb dX11_wrongAt_28 (by decide) ?_
      refine lv_aload_n hx hb dX11_wrongAt_29 rfl (lv_at hl 0 rfl) ?_
      refine w_get (C := RX11) (T := TX11) (N := 27) 19 hx hb hts inX11 hown hw (by decide) o1 rfl (by decide) (hts _ tw_904) rfl dX11_wrongAt_30 ?_
      refine lv_iload_n hx hb dX11_wrongAt_33 rfl (lv_at hl 1 rfl) ?_
      refine w_ialdN (j := s0) hx hb hw (by decide) b2 (rfl) (hs0) (by decide) dX11_wrongAt_34 ?_
      refine lv_iconst (v := 1) hx hb dX11_wrongAt_35 (by decide) ?_
      refine lv_isub hx hb dX11_wrongAt_36 ?_
      refine cSe (rST (As := [_, _, _]) ⟨hx, hb, hml, hown, hts⟩ (k_X11_in l ) (cv_X11_in hts tw_987 rfl rfl ⟨Nat.le_of_ble_eq_true rfl, Nat.le_of_ble_eq_true rfl⟩) rfl hl.1 rfl (by first | exact Nat.le_of_ble_eq_true rfl | decide) dX11_wrongAt_37 ⟨Nat.zero_le _, Nat.zero_le _⟩) ?_
      refine zb_eq (tgt := 47) hx hb dX11_wrongAt_40 (by decide) (fun c40 => ?_) (fun c40 => ?_)
      · refine lv_bipush (v := (-12)) hx hb dX11_wrongAt_47 (by decide) ?_
        exact re_S hx hb hr hlocks (rfl) dX11_wrongAt_49 (Or.inr ⟨s0, hs0, rfl, Or.inr (Or.inl ⟨c19, c40, rfl⟩)⟩)
      · skip
        refine lv_iconst (v := 0) hx hb dX11_wrongAt_43 (by decide) ?_
        refine lv_goto (tgt := 49) hx hb dX11_wrongAt_44 (by decide) ?_
        exact re_S hx hb hr hlocks (rfl) dX11_wrongAt_49 (Or.inr ⟨s0, hs0, rfl, Or.inr (Or.inr ⟨c19, c40, rfl⟩)⟩)
    · refine lv_bipush (v := (-11)) hx hb dX11_wrongAt_22 (by decide) ?_
      refine lv_goto (tgt := 49) hx hb dX11_wrongAt_24 (by decide) ?_
      exact re_S hx hb hr hlocks (rfl) dX11_wrongAt_49 (Or.inr ⟨s0, hs0, rfl, Or.inl ⟨c19, rfl⟩⟩)
  · refine lv_bipush (v := (-2)) hx hb dX11_wrongAt_7 (by decide) ?_
    refine lv_goto (tgt := 49) hx hb dX11_wrongAt_9 (by decide) ?_
    exact re_S hx hb hr hlocks (rfl) dX11_wrongAt_49 (Or.inl ⟨c4, rfl⟩)
set_option maxHeartbeats 4000000 in
set_option maxRecDepth 100000 in
theorem k_X11_write (l : Launch) {G : GT} {c : Nat → va_E} {n n1 rn tn n2 qn : Nat} {z hd sd fr tto tk wo iz : Int32} {im : Bool} (o1 : c 32 = .inr (9, [.ref (gad G 33), .ref (gad G 34), .ref (gad G 35), .int (nI n), .int (nI n1), .int z, .int hd, .int sd, .ref (gad G 36), .ref (gad G 37), .int (nI rn), .ref (gad G 38), .int (nI tn), .int fr, .int tto, .int tk, .int wo, .ref (gad G 39), .ref (gad G 40), .ref (gad G 41), .ref (gad G 42), .ref (gad G 43), .ref (gad G 44), .int (nI n2), .int (nI qn), .int iz, .int (bi im)])) {ss si it : Nat → Int32} (b1 : c 40 = .inl (gI G, 4, .inl ss)) (b2 : c 41 = .inl (gI G, 4, .inl si)) (b3 : c 42 = .inl (gI G, 160, .inl it)) {x y v : Int32} {sz : Nat → Nat} (hsi : ∀ s, s < 4 → si s = nI (sz s)) (hz40 : ∀ s, s < 4 → sz s ≤ 40) : Met l yX11_write (wv yX11_write cX11_write 5 (some .int)) ({ frames := 3, cells := 0, slots := 0, locals := 64 } : Room) (va_Pc [.ref (gad G 32), .int x, .int y, .int v] (fun U => Hw G c U U.heap)) (va_Qi (fun r (c9 : Nat → va_E) => (isSh x = false ∧ r = -2 ∧ c9 = c) ∨ (∃ j9, j9 < 4 ∧ x = nI j9 ∧ ((ss j9 = -1 ∧ r = -11 ∧ c9 = c) ∨ (ss j9 ≠ -1 ∧ wn y 0 (nI (sz j9) - 1) = false ∧ r = -12 ∧ c9 = c) ∨ (ss j9 ≠ -1 ∧ ∃ i, i < sz j9 ∧ y = nI i ∧ r = 1 ∧ c9 = va_up c 42 (.inl (gI G, 160, .inl (upd it (j9 * 40 + i) (if ss j9 = 1 then (if v ≠ 0 then 1 else 0) else v)))))))) (fun c9 t => Hw G c9 t t.heap) (gA G)) 0 0 (gA G) := by
  refine en (by decide +kernel) (by first | exact Nat.le_of_ble_eq_true rfl | decide) ?_
  intro p e s m below meth cd ls hx hb hr hml hown hts hlocks hnm hw hl
  have hl : lv_has ls 5 [(0, .ref (gad G 32)), (1, .int x), (2, .int y), (3, .int v)] := hl
  have hX : Sw G s s.heap := hw.2.2.2.2.2
  have hS : va_S (gA G) s.heap s.heap [] := va_S.rf
  obtain ⟨H, hH⟩ : ∃ wz9, wz9 = s.heap := ⟨_, rfl⟩
  obtain ⟨locs, hlocs⟩ : ∃ wz9 : List Loc, wz9 = [] := ⟨_, rfl⟩
  have hw : Hw G c s H := by rw [hH]; exact hw
  have hS : va_S (gA G) s.heap H locs := by rw [hH, hlocs]; exact hS
  suffices hgo : W p l e ({ frames := 3, cells := 0, slots := 0, locals := 64 } : Room) s m (([.ref (gad G 32), .int x, .int y, .int v] : List Value).toArray) below meth cd H locs 0 0 (MQ below (va_Qi (fun r (c9 : Nat → va_E) => (isSh x = false ∧ r = -2 ∧ c9 = c) ∨ (∃ j9, j9 < 4 ∧ x = nI j9 ∧ ((ss j9 = -1 ∧ r = -11 ∧ c9 = c) ∨ (ss j9 ≠ -1 ∧ wn y 0 (nI (sz j9) - 1) = false ∧ r = -12 ∧ c9 = c) ∨ (ss j9 ≠ -1 ∧ ∃ i, i < sz j9 ∧ y = nI i ∧ r = 1 ∧ c9 = va_up c 42 (.inl (gI G, 160, .inl (upd it (j9 * 40 + i) (if ss j9 = 1 then (if v ≠ 0 then 1 else 0) else v)))))))) (fun c9 t => Hw G c9 t t.heap) (gA G)) ([.ref (gad G 32), .int x, .int y, .int v] : List Value).toArray s 0 0 (gA G)) (F0 m 0 ls []) by rw [hH, hlocs] at hgo; exact hgo
  refine lv_aload_n hx hb dX11_write_0 rfl (lv_at hl 0 rfl) ?_
  refine lv_iload_n hx hb dX11_write_1 rfl (lv_at hl 1 rfl) ?_
  refine lv_iload_n hx hb dX11_write_2 rfl (lv_at hl 2 rfl) ?_
  refine cSi (rV (As := [_, _]) ⟨hx, hb, hml, hown, hts⟩ hw (k_X11_wrongAt l o1 b1 b2 b3) (cv_X11_wrongAt hts tw_1280 rfl rfl ⟨Nat.le_of_ble_eq_true rfl, Nat.le_of_ble_eq_true rfl⟩) (by decide) o1 rfl rfl hl.1 rfl (by first | exact Nat.le_of_ble_eq_true rfl | decide) dX11_write_3 ⟨Nat.zero_le _, Nat.zero_le _⟩) (fun r3 hr3 => ?_)
  rcases hr3 with ⟨g1, rfl⟩ | ⟨s0, hs0, rfl, (⟨g1, rfl⟩ | ⟨g1, g2, rfl⟩ | ⟨g1, g2, rfl⟩)⟩
  · refine lv_istore (lv' := [(4, _), (0, _), (1, _), (2, _), (3, _)]) hx hb dX11_write_6 hl (by decide) rfl (fun ls hl => ?_)
    refine lv_iload hx hb dX11_write_8 (lv_at hl 0 rfl) ?_
    refine lv_if_eq (tgt := 16) hx hb dX11_write_10 (by decide) (fun q => absurd q (by decide)) (fun c10 => ?_)
    refine lv_iload hx hb dX11_write_13 (lv_at hl 0 rfl) ?_
    exact re_Q hx hb hr hlocks (rfl) hw hS dX11_write_15 (Or.inl ⟨g1, rfl, rfl⟩)
  · refine lv_istore (lv' := [(4, _), (0, _), (1, _), (2, _), (3, _)]) hx hb dX11_write_6 hl (by decide) rfl (fun ls hl => ?_)
    refine lv_iload hx hb dX11_write_8 (lv_at hl 0 rfl) ?_
    refine lv_if_eq (tgt := 16) hx hb dX11_write_10 (by decide) (fun q => absurd q (by decide)) (fun c10 => ?_)
    refine lv_iload hx hb dX11_write_13 (lv_at hl 0 rfl) ?_
    exact re_Q hx hb hr hlocks (rfl) hw hS dX11_write_15 (Or.inr ⟨s0, hs0, rfl, Or.inl ⟨g1, rfl, rfl⟩⟩)
  · refine lv_istore (lv' := [(4, _), (0, _), (1, _), (2, _), (3, _)]) hx hb dX11_write_6 hl (by decide) rfl (fun ls hl => ?_)
    refine lv_iload hx hb dX11_write_8 (lv_at hl 0 rfl) ?_
    refine lv_if_eq (tgt := 16) hx hb dX11_write_10 (by decide) (fun q => absurd q (by decide)) (fun c10 => ?_)
    refine lv_iload hx hb dX11_write_13 (lv_at hl 0 rfl) ?_
    exact re_Q hx hb hr hlocks (rfl) hw hS dX11_write_15 (Or.inr ⟨s0, hs0, rfl, Or.inr (Or.inl ⟨g1, by rw [← hsi s0 hs0]; exact g2, rfl, rfl⟩)⟩)
  · refine lv_istore (lv' := [(4, _), (0, _), (1, _), (2, _), (3, _)]) hx hb dX11_write_6 hl (by decide) rfl (fun ls hl => ?_)
    refine lv_iload hx hb dX11_write_8 (lv_at hl 0 rfl) ?_
    refine lv_if_eq (tgt := 16) hx hb dX11_write_10 (by decide) (fun c10 => ?_) (fun q => absurd (rfl) q)
    rw [hsi s0 hs0] at g2
    obtain ⟨i, hi9, rfl⟩ := wn_ix (hz40 s0 hs0) g2
    have h40 := hz40 s0 hs0
    refine lv_aload_n hx hb dX11_write_16 rfl (lv_at hl 1 rfl) ?_
    refine w_get (C := RX11) (T := TX11) (N := 27) 20 hx hb hts inX11 hown hw (by decide) o1 rfl (by decide) (hts _ tw_905) rfl dX11_write_17 ?_
    refine lv_bipush (v := 40) hx hb dX11_write_20 (by decide) ?_
    refine lv_iload_n hx hb dX11_write_22 rfl (lv_at hl 2 rfl) ?_
    refine lv_imul hx hb dX11_write_23 ?_
    refine lv_iload_n hx hb dX11_write_24 rfl (lv_at hl 3 rfl) ?_
    refine lv_iadd hx hb dX11_write_25 ?_
    refine lv_aload_n hx hb dX11_write_26 rfl (lv_at hl 1 rfl) ?_
    refine w_get (C := RX11) (T := TX11) (N := 27) 18 hx hb hts inX11 hown hw (by decide) o1 rfl (by decide) (hts _ tw_903) rfl dX11_write_27 ?_
    refine lv_iload_n hx hb dX11_write_30 rfl (lv_at hl 2 rfl) ?_
    refine w_ialdN (j := s0) hx hb hw (by decide) b1 (rfl) (hs0) (by decide) dX11_write_31 ?_
    refine lv_iconst (v := 1) hx hb dX11_write_32 (by decide) ?_
    refine lv_icmp_ne (tgt := 48) hx hb dX11_write_33 (by decide) (fun c33 => ?_) (fun c33 => ?_)
    · refine lv_iload_n hx hb dX11_write_48 rfl (lv_at hl 4 rfl) ?_
      refine tp (y := if ss s0 = 1 then (if v ≠ 0 then 1 else 0) else v) (by simp [c33]) ?_
      refine w_iastN (j := s0 * 40 + i) (x := if ss s0 = 1 then (if v ≠ 0 then 1 else 0) else v) hx hb hw hX hS (by decide) b3 (ixm40 s0 i) (by omega) (by decide) dX11_write_49 (fun H locs hw hS => ?_)
      obtain ⟨w2, ew2⟩ : ∃ wz9 : Nat → va_E, wz9 = va_up c 42 (.inl (gI G, 160, .inl (upd it (s0 * 40 + i) (if ss s0 = 1 then (if v ≠ 0 then 1 else 0) else v)))) := ⟨_, rfl⟩
      have hw : Hw G w2 s H := by rw [ew2]; exact hw
      have o1_2 : w2 32 = .inr (9, [.ref (gad G 33), .ref (gad G 34), .ref (gad G 35), .int (nI n), .int (nI n1), .int z, .int hd, .int sd, .ref (gad G 36), .ref (gad G 37), .int (nI rn), .ref (gad G 38), .int (nI tn), .int fr, .int tto, .int tk, .int wo, .ref (gad G 39), .ref (gad G 40), .ref (gad G 41), .ref (gad G 42), .ref (gad G 43), .ref (gad G 44), .int (nI n2), .int (nI qn), .int iz, .int (bi im)]) := by rw [ew2]; exact vu_e (by decide) o1
      have b1_2 : w2 40 = .inl (gI G, 4, .inl ss) := by rw [ew2]; exact vu_e (by decide) b1
      have b2_2 : w2 41 = .inl (gI G, 4, .inl si) := by rw [ew2]; exact vu_e (by decide) b2
      have b3_2 : w2 42 = .inl (gI G, 160, .inl (upd it (s0 * 40 + i) (if ss s0 = 1 then (if v ≠ 0 then 1 else 0) else v))) := by rw [ew2]; exact vu_s
      refine lv_iconst (v := 1) hx hb dX11_write_50 (by decide) ?_
      exact re_Q hx hb hr hlocks (rfl) hw hS dX11_write_51 (Or.inr ⟨s0, hs0, rfl, Or.inr (Or.inr ⟨g1, i, hi9, rfl, rfl, ew2⟩)⟩)
    · refine lv_iload_n hx hb dX11_write_36 rfl (lv_at hl 4 rfl) ?_
      refine lv_if_eq (tgt := 44) hx hb dX11_write_37 (by decide) (fun c37 => ?_) (fun c37 => ?_)
      · refine lv_iconst (v := 0) hx hb dX11_write_44 (by decide) ?_
        refine lv_goto (tgt := 49) hx hb dX11_write_45 (by decide) ?_
        refine tp (y := if ss s0 = 1 then (if v ≠ 0 then 1 else 0) else v) (by simp [c33, c37]) ?_
        refine w_iastN (j := s0 * 40 + i) (x := if ss s0 = 1 then (if v ≠ 0 then 1 else 0) else v) hx hb hw hX hS (by decide) b3 (ixm40 s0 i) (by omega) (by decide) dX11_write_49 (fun H locs hw hS => ?_)
        obtain ⟨w3, ew3⟩ : ∃ wz9 : Nat → va_E, wz9 = va_up c 42 (.inl (gI G, 160, .inl (upd it (s0 * 40 + i) (if ss s0 = 1 then (if v ≠ 0 then 1 else 0) else v)))) := ⟨_, rfl⟩
        have hw : Hw G w3 s H := by rw [ew3]; exact hw
        have o1_3 : w3 32 = .inr (9, [.ref (gad G 33), .ref (gad G 34), .ref (gad G 35), .int (nI n), .int (nI n1), .int z, .int hd, .int sd, .ref (gad G 36), .ref (gad G 37), .int (nI rn), .ref (gad G 38), .int (nI tn), .int fr, .int tto, .int tk, .int wo, .ref (gad G 39), .ref (gad G 40), .ref (gad G 41), .ref (gad G 42), .ref (gad G 43), .ref (gad G 44), .int (nI n2), .int (nI qn), .int iz, .int (bi im)]) := by rw [ew3]; exact vu_e (by decide) o1
        have b1_3 : w3 40 = .inl (gI G, 4, .inl ss) := by rw [ew3]; exact vu_e (by decide) b1
        have b2_3 : w3 41 = .inl (gI G, 4, .inl si) := by rw [ew3]; exact vu_e (by decide) b2
        have b3_3 : w3 42 = .inl (gI G, 160, .inl (upd it (s0 * 40 + i) (if ss s0 = 1 then (if v ≠ 0 then 1 else 0) else v))) := by rw [ew3]; exact vu_s
        refine lv_iconst (v := 1) hx hb dX11_write_50 (by decide) ?_
        exact re_Q hx hb hr hlocks (rfl) hw hS dX11_write_51 (Or.inr ⟨s0, hs0, rfl, Or.inr (Or.inr ⟨g1, i, hi9, rfl, rfl, ew3⟩)⟩)
      · refine lv_iconst (v := 1) hx hb dX11_write_40 (by decide) ?_
        refine lv_goto (tgt := 49) hx hb dX11_write_41 (by decide) ?_
        refine tp (y := if ss s0 = 1 then (if v ≠ 0 then 1 else 0) else v) (by simp [c33, c37]) ?_
        refine w_iastN (j := s0 * 40 + i) (x := if ss s0 = 1 then (if v ≠ 0 then 1 else 0) else v) hx hb hw hX hS (by decide) b3 (ixm40 s0 i) (by omega) (by decide) dX11_write_49 (fun H locs hw hS => ?_)
        obtain ⟨w4, ew4⟩ : ∃ wz9 : Nat → va_E, wz9 = va_up c 42 (.inl (gI G, 160, .inl (upd it (s0 * 40 + i) (if ss s0 = 1 then (if v ≠ 0 then 1 else 0) else v)))) := ⟨_, rfl⟩
        have hw : Hw G w4 s H := by rw [ew4]; exact hw
        have o1_4 : w4 32 = .inr (9, [.ref (gad G 33), .ref (gad G 34), .ref (gad G 35), .int (nI n), .int (nI n1), .int z, .int hd, .int sd, .ref (gad G 36), .ref (gad G 37), .int (nI rn), .ref (gad G 38), .int (nI tn), .int fr, .int tto, .int tk, .int wo, .ref (gad G 39), .ref (gad G 40), .ref (gad G 41), .ref (gad G 42), .ref (gad G 43), .ref (gad G 44), .int (nI n2), .int (nI qn), .int iz, .int (bi im)]) := by rw [ew4]; exact vu_e (by decide) o1
        have b1_4 : w4 40 = .inl (gI G, 4, .inl ss) := by rw [ew4]; exact vu_e (by decide) b1
        have b2_4 : w4 41 = .inl (gI G, 4, .inl si) := by rw [ew4]; exact vu_e (by decide) b2
        have b3_4 : w4 42 = .inl (gI G, 160, .inl (upd it (s0 * 40 + i) (if ss s0 = 1 then (if v ≠ 0 then 1 else 0) else v))) := by rw [ew4]; exact vu_s
        refine lv_iconst (v := 1) hx hb dX11_write_50 (by decide) ?_
        exact re_Q hx hb hr hlocks (rfl) hw hS dX11_write_51 (Or.inr ⟨s0, hs0, rfl, Or.inr (Or.inr ⟨g1, i, hi9, rfl, rfl, ew4⟩)⟩)
set_option maxHeartbeats 4000000 in
set_option maxRecDepth 100000 in
theorem k_X11_copy (l : Launch) {G : GT} {c : Nat → va_E} {n n1 rn tn n2 qn : Nat} {z hd sd fr tto tk wo iz : Int32} {im : Bool} (o1 : c 32 = .inr (9, [.ref (gad G 33), .ref (gad G 34), .ref (gad G 35), .int (nI n), .int (nI n1), .int z, .int hd, .int sd, .ref (gad G 36), .ref (gad G 37), .int (nI rn), .ref (gad G 38), .int (nI tn), .int fr, .int tto, .int tk, .int wo, .ref (gad G 39), .ref (gad G 40), .ref (gad G 41), .ref (gad G 42), .ref (gad G 43), .ref (gad G 44), .int (nI n2), .int (nI qn), .int iz, .int (bi im)])) {ss si it : Nat → Int32} (b1 : c 40 = .inl (gI G, 4, .inl ss)) (b2 : c 41 = .inl (gI G, 4, .inl si)) (b3 : c 42 = .inl (gI G, 160, .inl it)) {x i y j q : Int32} {sz : Nat → Nat} (hsi : ∀ s, s < 4 → si s = nI (sz s)) (hz40 : ∀ s, s < 4 → sz s ≤ 40) : Met l yX11_copy (wv yX11_copy cX11_copy 9 (some .int)) ({ frames := 2, cells := 0, slots := 0, locals := 42 } : Room) (va_Pc [.ref (gad G 32), .int x, .int i, .int y, .int j, .int q] (fun U => Hw G c U U.heap)) (va_Qi (fun r (c9 : Nat → va_E) => ((isSh x && isSh y) = false ∧ r = -2 ∧ c9 = c) ∨ (∃ s8 t8, s8 < 4 ∧ t8 < 4 ∧ x = nI s8 ∧ y = nI t8 ∧ (((ss s8 = -1 ∨ ss t8 = -1) ∧ r = -11 ∧ c9 = c) ∨ (ss s8 ≠ -1 ∧ ss t8 ≠ -1 ∧ ss s8 ≠ ss t8 ∧ r = -13 ∧ c9 = c) ∨ (ss s8 ≠ -1 ∧ ss t8 ≠ -1 ∧ ss s8 = ss t8 ∧ ((!decide (i < 0) && !decide (q < 0) && !decide (nI (sz s8) - q < i)) && (!decide (j < 0) && !decide (q < 0) && !decide (nI (sz t8) - q < j))) = false ∧ r = -12 ∧ c9 = c) ∨ (ss s8 ≠ -1 ∧ ss t8 ≠ -1 ∧ ss s8 = ss t8 ∧ ∃ a8 b8 m8 : Nat, i = nI a8 ∧ j = nI b8 ∧ q = nI m8 ∧ a8 + m8 ≤ sz s8 ∧ b8 + m8 ≤ sz t8 ∧ r = q ∧ c9 = va_up c 42 (.inl (gI G, 160, .inl (itC it (s8 * 40 + a8) (t8 * 40 + b8) m8))))))) (fun c9 t => Hw G c9 t t.heap) (gA G)) 0 0 (gA G) := by
  refine en (by decide +kernel) (by first | exact Nat.le_of_ble_eq_true rfl | decide) ?_
  intro p e s m below meth cd ls hx hb hr hml hown hts hlocks hnm hw hl
  have hl : lv_has ls 9 [(0, .ref (gad G 32)), (1, .int x), (2, .int i), (3, .int y), (4, .int j), (5, .int q)] := hl
  have hX : Sw G s s.heap := hw.2.2.2.2.2
  have hS : va_S (gA G) s.heap s.heap [] := va_S.rf
  obtain ⟨H, hH⟩ : ∃ wz9, wz9 = s.heap := ⟨_, rfl⟩
  obtain ⟨locs, hlocs⟩ : ∃ wz9 : List Loc, wz9 = [] := ⟨_, rfl⟩
  have hw : Hw G c s H := by rw [hH]; exact hw
  have hS : va_S (gA G) s.heap H locs := by rw [hH, hlocs]; exact hS
  suffices hgo : W p l e ({ frames := 2, cells := 0, slots := 0, locals := 42 } : Room) s m (([.ref (gad G 32), .int x, .int i, .int y, .int j, .int q] : List Value).toArray) below meth cd H locs 0 0 (MQ below (va_Qi (fun r (c9 : Nat → va_E) => ((isSh x && isSh y) = false ∧ r = -2 ∧ c9 = c) ∨ (∃ s8 t8, s8 < 4 ∧ t8 < 4 ∧ x = nI s8 ∧ y = nI t8 ∧ (((ss s8 = -1 ∨ ss t8 = -1) ∧ r = -11 ∧ c9 = c) ∨ (ss s8 ≠ -1 ∧ ss t8 ≠ -1 ∧ ss s8 ≠ ss t8 ∧ r = -13 ∧ c9 = c) ∨ (ss s8 ≠ -1 ∧ ss t8 ≠ -1 ∧ ss s8 = ss t8 ∧ ((!decide (i < 0) && !decide (q < 0) && !decide (nI (sz s8) - q < i)) && (!decide (j < 0) && !decide (q < 0) && !decide (nI (sz t8) - q < j))) = false ∧ r = -12 ∧ c9 = c) ∨ (ss s8 ≠ -1 ∧ ss t8 ≠ -1 ∧ ss s8 = ss t8 ∧ ∃ a8 b8 m8 : Nat, i = nI a8 ∧ j = nI b8 ∧ q = nI m8 ∧ a8 + m8 ≤ sz s8 ∧ b8 + m8 ≤ sz t8 ∧ r = q ∧ c9 = va_up c 42 (.inl (gI G, 160, .inl (itC it (s8 * 40 + a8) (t8 * 40 + b8) m8))))))) (fun c9 t => Hw G c9 t t.heap) (gA G)) ([.ref (gad G 32), .int x, .int i, .int y, .int j, .int q] : List Value).toArray s 0 0 (gA G)) (F0 m 0 ls []) by rw [hH, hlocs] at hgo; exact hgo
  refine lv_iload_n hx hb dX11_copy_0 rfl (lv_at hl 1 rfl) ?_
  refine cSe (rST (As := [_]) ⟨hx, hb, hml, hown, hts⟩ (k_X11_isSheet l ) (cv_X11_isSheet hts tw_1273 rfl rfl ⟨Nat.le_of_ble_eq_true rfl, Nat.le_of_ble_eq_true rfl⟩) rfl hl.1 rfl (by first | exact Nat.le_of_ble_eq_true rfl | decide) dX11_copy_1 ⟨Nat.zero_le _, Nat.zero_le _⟩) ?_
  refine zb_eq (tgt := 14) hx hb dX11_copy_4 (by decide) (fun c4 => ?_) (fun c4 => ?_)
  · refine lv_bipush (v := (-2)) hx hb dX11_copy_14 (by decide) ?_
    exact re_Q hx hb hr hlocks (rfl) hw hS dX11_copy_16 (Or.inl ⟨by simp [c4], rfl, rfl⟩)
  · refine lv_iload_n hx hb dX11_copy_7 rfl (lv_at hl 3 rfl) ?_
    refine cSe (rST (As := [_]) ⟨hx, hb, hml, hown, hts⟩ (k_X11_isSheet l ) (cv_X11_isSheet hts tw_1273 rfl rfl ⟨Nat.le_of_ble_eq_true rfl, Nat.le_of_ble_eq_true rfl⟩) rfl hl.1 rfl (by first | exact Nat.le_of_ble_eq_true rfl | decide) dX11_copy_8 ⟨Nat.zero_le _, Nat.zero_le _⟩) ?_
    refine zb_ne (tgt := 17) hx hb dX11_copy_11 (by decide) (fun c11 => ?_) (fun c11 => ?_)
    · obtain ⟨s0, hs0, rfl⟩ := isSh_s c4
      obtain ⟨t0, ht0, rfl⟩ := isSh_s c11
      refine lv_aload_n hx hb dX11_copy_17 rfl (lv_at hl 0 rfl) ?_
      refine w_get (C := RX11) (T := TX11) (N := 27) 18 hx hb hts inX11 hown hw (by decide) o1 rfl (by decide) (hts _ tw_903) rfl dX11_copy_18 ?_
      refine lv_iload_n hx hb dX11_copy_21 rfl (lv_at hl 1 rfl) ?_
      refine w_ialdN (j := s0) hx hb hw (by decide) b1 (rfl) (hs0) (by decide) dX11_copy_22 ?_
      refine lv_iconst (v := (-1)) hx hb dX11_copy_23 (by decide) ?_
      refine lv_icmp_eq (tgt := 37) hx hb dX11_copy_24 (by decide) (fun c24 => ?_) (fun c24 => ?_)
      · refine lv_bipush (v := (-11)) hx hb dX11_copy_37 (by decide) ?_
        exact re_Q hx hb hr hlocks (rfl) hw hS dX11_copy_39 (Or.inr ⟨s0, t0, hs0, ht0, rfl, rfl, Or.inl ⟨Or.inl c24, rfl, rfl⟩⟩)
      · refine lv_aload_n hx hb dX11_copy_27 rfl (lv_at hl 0 rfl) ?_
        refine w_get (C := RX11) (T := TX11) (N := 27) 18 hx hb hts inX11 hown hw (by decide) o1 rfl (by decide) (hts _ tw_903) rfl dX11_copy_28 ?_
        refine lv_iload_n hx hb dX11_copy_31 rfl (lv_at hl 3 rfl) ?_
        refine w_ialdN (j := t0) hx hb hw (by decide) b1 (rfl) (ht0) (by decide) dX11_copy_32 ?_
        refine lv_iconst (v := (-1)) hx hb dX11_copy_33 (by decide) ?_
        refine lv_icmp_ne (tgt := 40) hx hb dX11_copy_34 (by decide) (fun c34 => ?_) (fun c34 => ?_)
        · refine lv_aload_n hx hb dX11_copy_40 rfl (lv_at hl 0 rfl) ?_
          refine w_get (C := RX11) (T := TX11) (N := 27) 18 hx hb hts inX11 hown hw (by decide) o1 rfl (by decide) (hts _ tw_903) rfl dX11_copy_41 ?_
          refine lv_iload_n hx hb dX11_copy_44 rfl (lv_at hl 1 rfl) ?_
          refine w_ialdN (j := s0) hx hb hw (by decide) b1 (rfl) (hs0) (by decide) dX11_copy_45 ?_
          refine lv_aload_n hx hb dX11_copy_46 rfl (lv_at hl 0 rfl) ?_
          refine w_get (C := RX11) (T := TX11) (N := 27) 18 hx hb hts inX11 hown hw (by decide) o1 rfl (by decide) (hts _ tw_903) rfl dX11_copy_47 ?_
          refine lv_iload_n hx hb dX11_copy_50 rfl (lv_at hl 3 rfl) ?_
          refine w_ialdN (j := t0) hx hb hw (by decide) b1 (rfl) (ht0) (by decide) dX11_copy_51 ?_
          refine lv_icmp_eq (tgt := 58) hx hb dX11_copy_52 (by decide) (fun c52 => ?_) (fun c52 => ?_)
          · refine lv_iload hx hb dX11_copy_58 (lv_at hl 5 rfl) ?_
            refine lv_if_lt (tgt := 99) hx hb dX11_copy_60 (by decide) (fun c60 => ?_) (fun c60 => ?_)
            · refine lv_bipush (v := (-12)) hx hb dX11_copy_99 (by decide) ?_
              exact re_Q hx hb hr hlocks (rfl) hw hS dX11_copy_101 (Or.inr ⟨s0, t0, hs0, ht0, rfl, rfl, Or.inr (Or.inr (Or.inl ⟨c24, c34, c52, by simp [c60], rfl, rfl⟩))⟩)
            · refine lv_iload_n hx hb dX11_copy_63 rfl (lv_at hl 2 rfl) ?_
              refine lv_if_lt (tgt := 99) hx hb dX11_copy_64 (by decide) (fun c64 => ?_) (fun c64 => ?_)
              · refine lv_bipush (v := (-12)) hx hb dX11_copy_99 (by decide) ?_
                exact re_Q hx hb hr hlocks (rfl) hw hS dX11_copy_101 (Or.inr ⟨s0, t0, hs0, ht0, rfl, rfl, Or.inr (Or.inr (Or.inl ⟨c24, c34, c52, by simp [c64], rfl, rfl⟩))⟩)
              · refine lv_iload hx hb dX11_copy_67 (lv_at hl 4 rfl) ?_
                refine lv_if_lt (tgt := 99) hx hb dX11_copy_69 (by decide) (fun c69 => ?_) (fun c69 => ?_)
                · refine lv_bipush (v := (-12)) hx hb dX11_copy_99 (by decide) ?_
                  exact re_Q hx hb hr hlocks (rfl) hw hS dX11_copy_101 (Or.inr ⟨s0, t0, hs0, ht0, rfl, rfl, Or.inr (Or.inr (Or.inl ⟨c24, c34, c52, by simp [c69], rfl, rfl⟩))⟩)
                · refine lv_iload_n hx hb dX11_copy_72 rfl (lv_at hl 2 rfl) ?_
                  refine lv_aload_n hx hb dX11_copy_73 rfl (lv_at hl 0 rfl) ?_
                  refine w_get (C := RX11) (T := TX11) (N := 27) 19 hx hb hts inX11 hown hw (by decide) o1 rfl (by decide) (hts _ tw_904) rfl dX11_copy_74 ?_
                  refine lv_iload_n hx hb dX11_copy_77 rfl (lv_at hl 1 rfl) ?_
                  refine w_ialdN (j := s0) hx hb hw (by decide) b2 (rfl) (hs0) (by decide) dX11_copy_78 ?_
                  refine lv_iload hx hb dX11_copy_79 (lv_at hl 5 rfl) ?_
                  refine lv_isub hx hb dX11_copy_81 ?_
                  refine lv_icmp_gt (tgt := 99) hx hb dX11_copy_82 (by decide) (fun c82 => ?_) (fun c82 => ?_)
                  · refine lv_bipush (v := (-12)) hx hb dX11_copy_99 (by decide) ?_
                    exact re_Q hx hb hr hlocks (rfl) hw hS dX11_copy_101 (Or.inr ⟨s0, t0, hs0, ht0, rfl, rfl, Or.inr (Or.inr (Or.inl ⟨c24, c34, c52, by rw [hsi s0 hs0] at c82; simp [show nI (sz s0) - q < i from c82], rfl, rfl⟩))⟩)
                  · refine lv_iload hx hb dX11_copy_85 (lv_at hl 4 rfl) ?_
                    refine lv_aload_n hx hb dX11_copy_87 rfl (lv_at hl 0 rfl) ?_
                    refine w_get (C := RX11) (T := TX11) (N := 27) 19 hx hb hts inX11 hown hw (by decide) o1 rfl (by decide) (hts _ tw_904) rfl dX11_copy_88 ?_
                    refine lv_iload_n hx hb dX11_copy_91 rfl (lv_at hl 3 rfl) ?_
                    refine w_ialdN (j := t0) hx hb hw (by decide) b2 (rfl) (ht0) (by decide) dX11_copy_92 ?_
                    refine lv_iload hx hb dX11_copy_93 (lv_at hl 5 rfl) ?_
                    refine lv_isub hx hb dX11_copy_95 ?_
                    refine lv_icmp_le (tgt := 102) hx hb dX11_copy_96 (by decide) (fun c96 => ?_) (fun c96 => ?_)
                    · obtain ⟨a, mm, ha9, hm9, ham⟩ := run_ix (n := sz s0) (i := i) (q := q) (hz40 s0 hs0) (by rw [hsi s0 hs0] at c82; simp only [Bool.and_eq_true, Bool.not_eq_true', decide_eq_false_iff_not]; exact ⟨⟨c64, c60⟩, c82⟩)
                      obtain ⟨b, m2, hb9, hm9b, hbm⟩ := run_ix (n := sz t0) (i := j) (q := q) (hz40 t0 ht0) (by rw [hsi t0 ht0] at c96; simp only [Bool.and_eq_true, Bool.not_eq_true', decide_eq_false_iff_not]; exact ⟨⟨c69, c60⟩, Int32.not_lt.mpr c96⟩)
                      have h40 := hz40 s0 hs0
                      have h41 := hz40 t0 ht0
                      obtain rfl : mm = m2 := (nI_eq (by omega) (by omega)).mp (hm9.symm.trans hm9b)
                      subst ha9 hb9 hm9
                      obtain ⟨A, hA⟩ : ∃ q9, q9 = s0 * 40 + a := ⟨_, rfl⟩
                      obtain ⟨B, hB⟩ : ∃ q9, q9 = t0 * 40 + b := ⟨_, rfl⟩
                      refine lv_bipush (v := 40) hx hb dX11_copy_102 (by decide) ?_
                      refine lv_iload_n hx hb dX11_copy_104 rfl (lv_at hl 1 rfl) ?_
                      refine lv_imul hx hb dX11_copy_105 ?_
                      refine lv_iload_n hx hb dX11_copy_106 rfl (lv_at hl 2 rfl) ?_
                      refine lv_iadd hx hb dX11_copy_107 ?_
                      refine lv_bipush (v := 40) hx hb dX11_copy_108 (by decide) ?_
                      refine lv_iload_n hx hb dX11_copy_110 rfl (lv_at hl 3 rfl) ?_
                      refine lv_imul hx hb dX11_copy_111 ?_
                      refine lv_iload hx hb dX11_copy_112 (lv_at hl 4 rfl) ?_
                      refine lv_iadd hx hb dX11_copy_114 ?_
                      refine tp (y := nI B) (by rw [hB]; exact ixm40 t0 b) ?_
                      refine tp2 (y := nI A) (by rw [hA]; exact ixm40 s0 a) ?_
                      refine lv_icmp_ge (tgt := 122) hx hb dX11_copy_115 (by decide) (fun c115 => ?_) (fun c115 => ?_)
                      · have hAB : B ≤ A := (nI_leI (by omega) (by omega)).mp c115
                        refine lv_iconst (v := 0) hx hb dX11_copy_122 (by decide) ?_
                        refine lv_istore (lv' := [(6, _), (0, _), (1, _), (2, _), (3, _), (4, _), (5, _)]) hx hb dX11_copy_123 hl (by decide) rfl (fun ls hl => ?_)
                        refine lv_iconst (v := 0) hx hb dX11_copy_125 (by decide) ?_
                        refine lv_istore (lv' := [(7, _), (6, _), (0, _), (1, _), (2, _), (3, _), (4, _), (5, _)]) hx hb dX11_copy_126 hl (by decide) rfl (fun ls hl => ?_)
                        have L128 : ∀ (N : Nat) (k : Nat) (fz : Nat → Int32), (k + N = mm) → (fz = (itU it A B k)) → ∀ (c0 : Nat → va_E) (H : Heap) (locs : List Loc), (c0 = va_up c 42 (.inl (gI G, 160, .inl fz))) → Hw G c0 s H → va_S (gA G) s.heap H locs → ∀ ls : Array Slot, lv_has ls 9 [(7, .int (nI k)), (6, .int 0), (5, .int (nI mm)), (4, .int (nI b)), (3, .int (nI t0)), (2, .int (nI a)), (1, .int (nI s0)), (0, .ref (gad G 32))] → W p l e ({ frames := 2, cells := 0, slots := 0, locals := 42 } : Room) s m (([.ref (gad G 32), .int (nI s0), .int (nI a), .int (nI t0), .int (nI b), .int (nI mm)] : List Value).toArray) below meth cd H locs 0 0 (MQ below (va_Qi (fun r (c9 : Nat → va_E) => ((isSh (nI s0) && isSh (nI t0)) = false ∧ r = -2 ∧ c9 = c) ∨ (∃ s8 t8, s8 < 4 ∧ t8 < 4 ∧ (nI s0) = nI s8 ∧ (nI t0) = nI t8 ∧ (((ss s8 = -1 ∨ ss t8 = -1) ∧ r = -11 ∧ c9 = c) ∨ (ss s8 ≠ -1 ∧ ss t8 ≠ -1 ∧ ss s8 ≠ ss t8 ∧ r = -13 ∧ c9 = c) ∨ (ss s8 ≠ -1 ∧ ss t8 ≠ -1 ∧ ss s8 = ss t8 ∧ ((!decide ((nI a) < 0) && !decide ((nI mm) < 0) && !decide (nI (sz s8) - (nI mm) < (nI a))) && (!decide ((nI b) < 0) && !decide ((nI mm) < 0) && !decide (nI (sz t8) - (nI mm) < (nI b)))) = false ∧ r = -12 ∧ c9 = c) ∨ (ss s8 ≠ -1 ∧ ss t8 ≠ -1 ∧ ss s8 = ss t8 ∧ ∃ a8 b8 m8 : Nat, (nI a) = nI a8 ∧ (nI b) = nI b8 ∧ (nI mm) = nI m8 ∧ a8 + m8 ≤ sz s8 ∧ b8 + m8 ≤ sz t8 ∧ r = (nI mm) ∧ c9 = va_up c 42 (.inl (gI G, 160, .inl (itC it (s8 * 40 + a8) (t8 * 40 + b8) m8))))))) (fun c9 t => Hw G c9 t t.heap) (gA G)) ([.ref (gad G 32), .int (nI s0), .int (nI a), .int (nI t0), .int (nI b), .int (nI mm)] : List Value).toArray s 0 0 (gA G)) (F0 m 128 ls []) := by
                          intro N
                          induction N with
                          | zero =>
                            intro k  fz  hN hz c0 H locs e0 hw hS ls hl
                            have hkm : k = mm := by omega
                            refine lv_iload hx hb dX11_copy_128 (lv_at hl 0 rfl) ?_
                            refine lv_iload hx hb dX11_copy_130 (lv_at hl 2 rfl) ?_
                            refine lv_icmp_ge (tgt := 189) hx hb dX11_copy_132 (by decide) (fun c132 => ?_) (fun q => absurd (nI_le (by omega) (by omega)) q)
                            refine lv_iload hx hb dX11_copy_189 (lv_at hl 2 rfl) ?_
                            exact re_Q hx hb hr hlocks (rfl) hw hS dX11_copy_191 (Or.inr ⟨s0, t0, hs0, ht0, rfl, rfl, Or.inr (Or.inr (Or.inr ⟨c24, c34, c52, a, b, mm, rfl, rfl, rfl, ham, hbm, rfl, by rw [e0, hz, hkm, ← hA, ← hB, itU_C]⟩))⟩)
                          | succ N ih =>
                            intro k  fz  hN hz c0 H locs e0 hw hS ls hl
                            have o1 : c0 32 = .inr (9, [.ref (gad G 33), .ref (gad G 34), .ref (gad G 35), .int (nI n), .int (nI n1), .int z, .int hd, .int sd, .ref (gad G 36), .ref (gad G 37), .int (nI rn), .ref (gad G 38), .int (nI tn), .int fr, .int tto, .int tk, .int wo, .ref (gad G 39), .ref (gad G 40), .ref (gad G 41), .ref (gad G 42), .ref (gad G 43), .ref (gad G 44), .int (nI n2), .int (nI qn), .int iz, .int (bi im)]) := by rw [e0]; exact vu_e (by decide) o1
                            have b3 : c0 42 = .inl (gI G, 160, .inl fz) := by rw [e0]; exact vu_s
                            refine lv_iload hx hb dX11_copy_128 (lv_at hl 0 rfl) ?_
                            refine lv_iload hx hb dX11_copy_130 (lv_at hl 2 rfl) ?_
                            refine lv_icmp_ge (tgt := 189) hx hb dX11_copy_132 (by decide) (fun q => absurd q (nI_ge (by omega) (by omega))) (fun c132 => ?_)
                            refine lv_iload hx hb dX11_copy_135 (lv_at hl 1 rfl) ?_
                            refine lv_if_eq (tgt := 150) hx hb dX11_copy_137 (by decide) (fun c137 => ?_) (fun q => absurd (rfl) q)
                            refine lv_iload hx hb dX11_copy_150 (lv_at hl 0 rfl) ?_
                            skip
                            refine lv_istore (lv' := [(8, _), (7, _), (6, _), (5, _), (4, _), (3, _), (2, _), (1, _), (0, _)]) hx hb dX11_copy_152 hl (by decide) rfl (fun ls hl => ?_)
                            refine lv_aload_n hx hb dX11_copy_154 rfl (lv_at hl 8 rfl) ?_
                            refine w_get (C := RX11) (T := TX11) (N := 27) 20 hx hb hts inX11 hown hw (by decide) o1 rfl (by decide) (hts _ tw_905) rfl dX11_copy_155 ?_
                            refine lv_bipush (v := 40) hx hb dX11_copy_158 (by decide) ?_
                            refine lv_iload_n hx hb dX11_copy_160 rfl (lv_at hl 5 rfl) ?_
                            refine lv_imul hx hb dX11_copy_161 ?_
                            refine lv_iload hx hb dX11_copy_162 (lv_at hl 4 rfl) ?_
                            refine lv_iadd hx hb dX11_copy_164 ?_
                            refine lv_iload hx hb dX11_copy_165 (lv_at hl 0 rfl) ?_
                            refine lv_iadd hx hb dX11_copy_167 ?_
                            refine lv_aload_n hx hb dX11_copy_168 rfl (lv_at hl 8 rfl) ?_
                            refine w_get (C := RX11) (T := TX11) (N := 27) 20 hx hb hts inX11 hown hw (by decide) o1 rfl (by decide) (hts _ tw_905) rfl dX11_copy_169 ?_
                            refine lv_bipush (v := 40) hx hb dX11_copy_172 (by decide) ?_
                            refine lv_iload_n hx hb dX11_copy_174 rfl (lv_at hl 7 rfl) ?_
                            refine lv_imul hx hb dX11_copy_175 ?_
                            refine lv_iload_n hx hb dX11_copy_176 rfl (lv_at hl 6 rfl) ?_
                            refine lv_iadd hx hb dX11_copy_177 ?_
                            refine lv_iload hx hb dX11_copy_178 (lv_at hl 0 rfl) ?_
                            refine lv_iadd hx hb dX11_copy_180 ?_
                            refine w_ialdN (j := A + k) hx hb hw (by decide) b3 (by rw [ixm40, ← hA]; exact nI_add _ _) (by omega) (by decide) dX11_copy_181 ?_
                            refine w_iastN (j := B + k) (x := fz (A + k)) hx hb hw hX hS (by decide) b3 (by rw [ixm40, ← hB]; exact nI_add _ _) (by omega) (by decide) dX11_copy_182 (fun H locs hw hS => ?_)
                            obtain ⟨w1, ew1⟩ : ∃ wz9 : Nat → va_E, wz9 = va_up c0 42 (.inl (gI G, 160, .inl (upd fz (B + k) (fz (A + k))))) := ⟨_, rfl⟩
                            have hw : Hw G w1 s H := by rw [ew1]; exact hw
                            have o1_1 : w1 32 = .inr (9, [.ref (gad G 33), .ref (gad G 34), .ref (gad G 35), .int (nI n), .int (nI n1), .int z, .int hd, .int sd, .ref (gad G 36), .ref (gad G 37), .int (nI rn), .ref (gad G 38), .int (nI tn), .int fr, .int tto, .int tk, .int wo, .ref (gad G 39), .ref (gad G 40), .ref (gad G 41), .ref (gad G 42), .ref (gad G 43), .ref (gad G 44), .int (nI n2), .int (nI qn), .int iz, .int (bi im)]) := by rw [ew1]; exact vu_e (by decide) o1
                            have b3_1 : w1 42 = .inl (gI G, 160, .inl (upd fz (B + k) (fz (A + k)))) := by rw [ew1]; exact vu_s
                            refine lv_iinc (v := nI (k + 1)) (lv' := [(7, _), (8, _), (6, _), (5, _), (4, _), (3, _), (2, _), (1, _), (0, _)]) hx hb dX11_copy_183 hl (k := 1) rfl (inc1 k) (by decide) rfl (fun ls hl => ?_)
                            refine lv_goto (tgt := 128) hx hb dX11_copy_186 (by decide) ?_
                            exact ih (k + 1) (itU it A B (k + 1)) (by omega) rfl _ H locs (by rw [ew1, e0, up_up, hz, itU_s it hAB]) hw hS ls (lv_sub hl [0, 2, 3, 4, 5, 6, 7, 8] rfl)
                        exact L128 mm 0 it (by omega) (itU_0 it A B).symm _ H locs (up_id b3).symm hw hS ls (lv_sub hl [0, 1, 7, 6, 5, 4, 3, 2] rfl)
                      · have hAB : A < B := (nI_ltI (by omega) (by omega)).mp (Int32.not_le.mp c115)
                        refine lv_iconst (v := 1) hx hb dX11_copy_118 (by decide) ?_
                        refine lv_goto (tgt := 123) hx hb dX11_copy_119 (by decide) ?_
                        refine lv_istore (lv' := [(6, _), (0, _), (1, _), (2, _), (3, _), (4, _), (5, _)]) hx hb dX11_copy_123 hl (by decide) rfl (fun ls hl => ?_)
                        refine lv_iconst (v := 0) hx hb dX11_copy_125 (by decide) ?_
                        refine lv_istore (lv' := [(7, _), (6, _), (0, _), (1, _), (2, _), (3, _), (4, _), (5, _)]) hx hb dX11_copy_126 hl (by decide) rfl (fun ls hl => ?_)
                        have L128 : ∀ (N : Nat) (k : Nat) (fz : Nat → Int32), (k + N = mm) → (fz = (itV it A B mm k)) → ∀ (c0 : Nat → va_E) (H : Heap) (locs : List Loc), (c0 = va_up c 42 (.inl (gI G, 160, .inl fz))) → Hw G c0 s H → va_S (gA G) s.heap H locs → ∀ ls : Array Slot, lv_has ls 9 [(7, .int (nI k)), (6, .int 1), (5, .int (nI mm)), (4, .int (nI b)), (3, .int (nI t0)), (2, .int (nI a)), (1, .int (nI s0)), (0, .ref (gad G 32))] → W p l e ({ frames := 2, cells := 0, slots := 0, locals := 42 } : Room) s m (([.ref (gad G 32), .int (nI s0), .int (nI a), .int (nI t0), .int (nI b), .int (nI mm)] : List Value).toArray) below meth cd H locs 0 0 (MQ below (va_Qi (fun r (c9 : Nat → va_E) => ((isSh (nI s0) && isSh (nI t0)) = false ∧ r = -2 ∧ c9 = c) ∨ (∃ s8 t8, s8 < 4 ∧ t8 < 4 ∧ (nI s0) = nI s8 ∧ (nI t0) = nI t8 ∧ (((ss s8 = -1 ∨ ss t8 = -1) ∧ r = -11 ∧ c9 = c) ∨ (ss s8 ≠ -1 ∧ ss t8 ≠ -1 ∧ ss s8 ≠ ss t8 ∧ r = -13 ∧ c9 = c) ∨ (ss s8 ≠ -1 ∧ ss t8 ≠ -1 ∧ ss s8 = ss t8 ∧ ((!decide ((nI a) < 0) && !decide ((nI mm) < 0) && !decide (nI (sz s8) - (nI mm) < (nI a))) && (!decide ((nI b) < 0) && !decide ((nI mm) < 0) && !decide (nI (sz t8) - (nI mm) < (nI b)))) = false ∧ r = -12 ∧ c9 = c) ∨ (ss s8 ≠ -1 ∧ ss t8 ≠ -1 ∧ ss s8 = ss t8 ∧ ∃ a8 b8 m8 : Nat, (nI a) = nI a8 ∧ (nI b) = nI b8 ∧ (nI mm) = nI m8 ∧ a8 + m8 ≤ sz s8 ∧ b8 + m8 ≤ sz t8 ∧ r = (nI mm) ∧ c9 = va_up c 42 (.inl (gI G, 160, .inl (itC it (s8 * 40 + a8) (t8 * 40 + b8) m8))))))) (fun c9 t => Hw G c9 t t.heap) (gA G)) ([.ref (gad G 32), .int (nI s0), .int (nI a), .int (nI t0), .int (nI b), .int (nI mm)] : List Value).toArray s 0 0 (gA G)) (F0 m 128 ls []) := by
                          intro N
                          induction N with
                          | zero =>
                            intro k  fz  hN hz c0 H locs e0 hw hS ls hl
                            have hkm : k = mm := by omega
                            refine lv_iload hx hb dX11_copy_128 (lv_at hl 0 rfl) ?_
                            refine lv_iload hx hb dX11_copy_130 (lv_at hl 2 rfl) ?_
                            refine lv_icmp_ge (tgt := 189) hx hb dX11_copy_132 (by decide) (fun c132 => ?_) (fun q => absurd (nI_le (by omega) (by omega)) q)
                            refine lv_iload hx hb dX11_copy_189 (lv_at hl 2 rfl) ?_
                            exact re_Q hx hb hr hlocks (rfl) hw hS dX11_copy_191 (Or.inr ⟨s0, t0, hs0, ht0, rfl, rfl, Or.inr (Or.inr (Or.inr ⟨c24, c34, c52, a, b, mm, rfl, rfl, rfl, ham, hbm, rfl, by rw [e0, hz, hkm, ← hA, ← hB, itV_C]⟩))⟩)
                          | succ N ih =>
                            intro k  fz  hN hz c0 H locs e0 hw hS ls hl
                            have o1 : c0 32 = .inr (9, [.ref (gad G 33), .ref (gad G 34), .ref (gad G 35), .int (nI n), .int (nI n1), .int z, .int hd, .int sd, .ref (gad G 36), .ref (gad G 37), .int (nI rn), .ref (gad G 38), .int (nI tn), .int fr, .int tto, .int tk, .int wo, .ref (gad G 39), .ref (gad G 40), .ref (gad G 41), .ref (gad G 42), .ref (gad G 43), .ref (gad G 44), .int (nI n2), .int (nI qn), .int iz, .int (bi im)]) := by rw [e0]; exact vu_e (by decide) o1
                            have b3 : c0 42 = .inl (gI G, 160, .inl fz) := by rw [e0]; exact vu_s
                            refine lv_iload hx hb dX11_copy_128 (lv_at hl 0 rfl) ?_
                            refine lv_iload hx hb dX11_copy_130 (lv_at hl 2 rfl) ?_
                            refine lv_icmp_ge (tgt := 189) hx hb dX11_copy_132 (by decide) (fun q => absurd q (nI_ge (by omega) (by omega))) (fun c132 => ?_)
                            refine lv_iload hx hb dX11_copy_135 (lv_at hl 1 rfl) ?_
                            refine lv_if_eq (tgt := 150) hx hb dX11_copy_137 (by decide) (fun q => absurd q (by decide)) (fun c137 => ?_)
                            refine lv_iload hx hb dX11_copy_140 (lv_at hl 2 rfl) ?_
                            refine lv_iconst (v := 1) hx hb dX11_copy_142 (by decide) ?_
                            refine lv_isub hx hb dX11_copy_143 ?_
                            refine lv_iload hx hb dX11_copy_144 (lv_at hl 0 rfl) ?_
                            refine lv_isub hx hb dX11_copy_146 ?_
                            refine lv_goto (tgt := 152) hx hb dX11_copy_147 (by decide) ?_
                            refine tp (y := nI (mm - 1 - k)) (by rw [ixp (show 1 ≤ mm by omega)]; exact pk_sub (by omega)) ?_
                            refine lv_istore (lv' := [(8, _), (7, _), (6, _), (5, _), (4, _), (3, _), (2, _), (1, _), (0, _)]) hx hb dX11_copy_152 hl (by decide) rfl (fun ls hl => ?_)
                            refine lv_aload_n hx hb dX11_copy_154 rfl (lv_at hl 8 rfl) ?_
                            refine w_get (C := RX11) (T := TX11) (N := 27) 20 hx hb hts inX11 hown hw (by decide) o1 rfl (by decide) (hts _ tw_905) rfl dX11_copy_155 ?_
                            refine lv_bipush (v := 40) hx hb dX11_copy_158 (by decide) ?_
                            refine lv_iload_n hx hb dX11_copy_160 rfl (lv_at hl 5 rfl) ?_
                            refine lv_imul hx hb dX11_copy_161 ?_
                            refine lv_iload hx hb dX11_copy_162 (lv_at hl 4 rfl) ?_
                            refine lv_iadd hx hb dX11_copy_164 ?_
                            refine lv_iload hx hb dX11_copy_165 (lv_at hl 0 rfl) ?_
                            refine lv_iadd hx hb dX11_copy_167 ?_
                            refine lv_aload_n hx hb dX11_copy_168 rfl (lv_at hl 8 rfl) ?_
                            refine w_get (C := RX11) (T := TX11) (N := 27) 20 hx hb hts inX11 hown hw (by decide) o1 rfl (by decide) (hts _ tw_905) rfl dX11_copy_169 ?_
                            refine lv_bipush (v := 40) hx hb dX11_copy_172 (by decide) ?_
                            refine lv_iload_n hx hb dX11_copy_174 rfl (lv_at hl 7 rfl) ?_
                            refine lv_imul hx hb dX11_copy_175 ?_
                            refine lv_iload_n hx hb dX11_copy_176 rfl (lv_at hl 6 rfl) ?_
                            refine lv_iadd hx hb dX11_copy_177 ?_
                            refine lv_iload hx hb dX11_copy_178 (lv_at hl 0 rfl) ?_
                            refine lv_iadd hx hb dX11_copy_180 ?_
                            refine w_ialdN (j := A + (mm - 1 - k)) hx hb hw (by decide) b3 (by rw [ixm40, ← hA]; exact nI_add _ _) (by omega) (by decide) dX11_copy_181 ?_
                            refine w_iastN (j := B + (mm - 1 - k)) (x := fz (A + (mm - 1 - k))) hx hb hw hX hS (by decide) b3 (by rw [ixm40, ← hB]; exact nI_add _ _) (by omega) (by decide) dX11_copy_182 (fun H locs hw hS => ?_)
                            obtain ⟨w2, ew2⟩ : ∃ wz9 : Nat → va_E, wz9 = va_up c0 42 (.inl (gI G, 160, .inl (upd fz (B + (mm - 1 - k)) (fz (A + (mm - 1 - k)))))) := ⟨_, rfl⟩
                            have hw : Hw G w2 s H := by rw [ew2]; exact hw
                            have o1_2 : w2 32 = .inr (9, [.ref (gad G 33), .ref (gad G 34), .ref (gad G 35), .int (nI n), .int (nI n1), .int z, .int hd, .int sd, .ref (gad G 36), .ref (gad G 37), .int (nI rn), .ref (gad G 38), .int (nI tn), .int fr, .int tto, .int tk, .int wo, .ref (gad G 39), .ref (gad G 40), .ref (gad G 41), .ref (gad G 42), .ref (gad G 43), .ref (gad G 44), .int (nI n2), .int (nI qn), .int iz, .int (bi im)]) := by rw [ew2]; exact vu_e (by decide) o1
                            have b3_2 : w2 42 = .inl (gI G, 160, .inl (upd fz (B + (mm - 1 - k)) (fz (A + (mm - 1 - k))))) := by rw [ew2]; exact vu_s
                            refine lv_iinc (v := nI (k + 1)) (lv' := [(7, _), (8, _), (6, _), (5, _), (4, _), (3, _), (2, _), (1, _), (0, _)]) hx hb dX11_copy_183 hl (k := 1) rfl (inc1 k) (by decide) rfl (fun ls hl => ?_)
                            refine lv_goto (tgt := 128) hx hb dX11_copy_186 (by decide) ?_
                            exact ih (k + 1) (itV it A B mm (k + 1)) (by omega) rfl _ H locs (by rw [ew2, e0, up_up, hz, itV_s it hAB (by omega)]) hw hS ls (lv_sub hl [0, 2, 3, 4, 5, 6, 7, 8] rfl)
                        exact L128 mm 0 it (by omega) (itV_0 it A B mm).symm _ H locs (up_id b3).symm hw hS ls (lv_sub hl [0, 1, 7, 6, 5, 4, 3, 2] rfl)
                    · refine lv_bipush (v := (-12)) hx hb dX11_copy_99 (by decide) ?_
                      exact re_Q hx hb hr hlocks (rfl) hw hS dX11_copy_101 (Or.inr ⟨s0, t0, hs0, ht0, rfl, rfl, Or.inr (Or.inr (Or.inl ⟨c24, c34, c52, by rw [hsi t0 ht0] at c96; simp [Int32.not_le.mp c96], rfl, rfl⟩))⟩)
          · refine lv_bipush (v := (-13)) hx hb dX11_copy_55 (by decide) ?_
            exact re_Q hx hb hr hlocks (rfl) hw hS dX11_copy_57 (Or.inr ⟨s0, t0, hs0, ht0, rfl, rfl, Or.inr (Or.inl ⟨c24, c34, c52, rfl, rfl⟩)⟩)
        · refine lv_bipush (v := (-11)) hx hb dX11_copy_37 (by decide) ?_
          exact re_Q hx hb hr hlocks (rfl) hw hS dX11_copy_39 (Or.inr ⟨s0, t0, hs0, ht0, rfl, rfl, Or.inl ⟨Or.inr c34, rfl, rfl⟩⟩)
    · refine lv_bipush (v := (-2)) hx hb dX11_copy_14 (by decide) ?_
      exact re_Q hx hb hr hlocks (rfl) hw hS dX11_copy_16 (Or.inl ⟨by simp [c4, c11], rfl, rfl⟩)
set_option maxHeartbeats 4000000 in
set_option maxRecDepth 100000 in
theorem k_X11_lay (l : Launch) {G : GT} {c : Nat → va_E} {n n1 rn tn n2 qn : Nat} {z hd sd fr tto tk wo iz : Int32} {im : Bool} (o1 : c 32 = .inr (9, [.ref (gad G 33), .ref (gad G 34), .ref (gad G 35), .int (nI n), .int (nI n1), .int z, .int hd, .int sd, .ref (gad G 36), .ref (gad G 37), .int (nI rn), .ref (gad G 38), .int (nI tn), .int fr, .int tto, .int tk, .int wo, .ref (gad G 39), .ref (gad G 40), .ref (gad G 41), .ref (gad G 42), .ref (gad G 43), .ref (gad G 44), .int (nI n2), .int (nI qn), .int iz, .int (bi im)])) {f : Nat → Int32} (a1 : c 33 = .inl (gI G, 132, .inl f)) (hn : n ≤ 12) {ss si it : Nat → Int32} (b1 : c 40 = .inl (gI G, 4, .inl ss)) (b2 : c 41 = .inl (gI G, 4, .inl si)) (b3 : c 42 = .inl (gI G, 160, .inl it)) {a d t x : Int32} (hI : cI f n) {sz : Nat → Nat} (hsi : ∀ s, s < 4 → si s = nI (sz s)) (hz40 : ∀ s, s < 4 → sz s ≤ 40) : Met l yX11_lay (wv yX11_lay cX11_lay 7 (some .int)) ({ frames := 6, cells := 0, slots := 0, locals := 142 } : Room) (va_Pc [.ref (gad G 32), .int a, .int d, .int t, .int x] (fun U => Hw G c U U.heap)) (va_Qi (fun r (c9 : Nat → va_E) => ((isP a && isDy d && isSh t && isSh x) = false ∧ r = -2 ∧ c9 = c) ∨ (∃ j9, j9 < 4 ∧ x = nI j9 ∧ (isP a && isDy d && isSh t) = true ∧ ((ss j9 = -1 ∧ r = -11 ∧ c9 = c) ∨ (ss j9 ≠ -1 ∧ r = nI (min (szN t) (sz j9)) ∧ ∃ h8 s8 : Int32, c9 = va_up (va_up c 42 (.inl (gI G, 160, .inl (itL it (ss j9) (og f n (pN a) d t) j9 (min (szN t) (sz j9)))))) 32 (.inr (9, [.ref (gad G 33), .ref (gad G 34), .ref (gad G 35), .int (nI n), .int (nI n1), .int z, .int (h8), .int (s8), .ref (gad G 36), .ref (gad G 37), .int (nI rn), .ref (gad G 38), .int (nI tn), .int fr, .int tto, .int tk, .int wo, .ref (gad G 39), .ref (gad G 40), .ref (gad G 41), .ref (gad G 42), .ref (gad G 43), .ref (gad G 44), .int (nI n2), .int (nI qn), .int iz, .int (bi im)])))))) (fun c9 t => Hw G c9 t t.heap) (gA G)) 0 0 (gA G) := by
  refine en (by decide +kernel) (by first | exact Nat.le_of_ble_eq_true rfl | decide) ?_
  intro p e s m below meth cd ls hx hb hr hml hown hts hlocks hnm hw hl
  have hl : lv_has ls 7 [(0, .ref (gad G 32)), (1, .int a), (2, .int d), (3, .int t), (4, .int x)] := hl
  have hX : Sw G s s.heap := hw.2.2.2.2.2
  have hS : va_S (gA G) s.heap s.heap [] := va_S.rf
  obtain ⟨H, hH⟩ : ∃ wz9, wz9 = s.heap := ⟨_, rfl⟩
  obtain ⟨locs, hlocs⟩ : ∃ wz9 : List Loc, wz9 = [] := ⟨_, rfl⟩
  have hw : Hw G c s H := by rw [hH]; exact hw
  have hS : va_S (gA G) s.heap H locs := by rw [hH, hlocs]; exact hS
  suffices hgo : W p l e ({ frames := 6, cells := 0, slots := 0, locals := 142 } : Room) s m (([.ref (gad G 32), .int a, .int d, .int t, .int x] : List Value).toArray) below meth cd H locs 0 0 (MQ below (va_Qi (fun r (c9 : Nat → va_E) => ((isP a && isDy d && isSh t && isSh x) = false ∧ r = -2 ∧ c9 = c) ∨ (∃ j9, j9 < 4 ∧ x = nI j9 ∧ (isP a && isDy d && isSh t) = true ∧ ((ss j9 = -1 ∧ r = -11 ∧ c9 = c) ∨ (ss j9 ≠ -1 ∧ r = nI (min (szN t) (sz j9)) ∧ ∃ h8 s8 : Int32, c9 = va_up (va_up c 42 (.inl (gI G, 160, .inl (itL it (ss j9) (og f n (pN a) d t) j9 (min (szN t) (sz j9)))))) 32 (.inr (9, [.ref (gad G 33), .ref (gad G 34), .ref (gad G 35), .int (nI n), .int (nI n1), .int z, .int (h8), .int (s8), .ref (gad G 36), .ref (gad G 37), .int (nI rn), .ref (gad G 38), .int (nI tn), .int fr, .int tto, .int tk, .int wo, .ref (gad G 39), .ref (gad G 40), .ref (gad G 41), .ref (gad G 42), .ref (gad G 43), .ref (gad G 44), .int (nI n2), .int (nI qn), .int iz, .int (bi im)])))))) (fun c9 t => Hw G c9 t t.heap) (gA G)) ([.ref (gad G 32), .int a, .int d, .int t, .int x] : List Value).toArray s 0 0 (gA G)) (F0 m 0 ls []) by rw [hH, hlocs] at hgo; exact hgo
  refine lv_iload_n hx hb dX11_lay_0 rfl (lv_at hl 1 rfl) ?_
  refine lv_iload_n hx hb dX11_lay_1 rfl (lv_at hl 2 rfl) ?_
  refine lv_iload_n hx hb dX11_lay_2 rfl (lv_at hl 3 rfl) ?_
  refine cSe (rST (As := [_, _, _]) ⟨hx, hb, hml, hown, hts⟩ (k_X11_isAlong l ) (cv_X11_isAlong hts tw_1098 rfl rfl ⟨Nat.le_of_ble_eq_true rfl, Nat.le_of_ble_eq_true rfl⟩) rfl hl.1 rfl (by first | exact Nat.le_of_ble_eq_true rfl | decide) dX11_lay_3 ⟨Nat.zero_le _, Nat.zero_le _⟩) ?_
  refine zb_eq (tgt := 17) hx hb dX11_lay_6 (by decide) (fun c6 => ?_) (fun c6 => ?_)
  · refine lv_bipush (v := (-2)) hx hb dX11_lay_17 (by decide) ?_
    exact re_Q hx hb hr hlocks (rfl) hw hS dX11_lay_19 (Or.inl ⟨by simp [c6], rfl, rfl⟩)
  · refine lv_iload hx hb dX11_lay_9 (lv_at hl 4 rfl) ?_
    refine cSe (rST (As := [_]) ⟨hx, hb, hml, hown, hts⟩ (k_X11_isSheet l ) (cv_X11_isSheet hts tw_1273 rfl rfl ⟨Nat.le_of_ble_eq_true rfl, Nat.le_of_ble_eq_true rfl⟩) rfl hl.1 rfl (by first | exact Nat.le_of_ble_eq_true rfl | decide) dX11_lay_11 ⟨Nat.zero_le _, Nat.zero_le _⟩) ?_
    refine zb_ne (tgt := 20) hx hb dX11_lay_14 (by decide) (fun c14 => ?_) (fun c14 => ?_)
    · obtain ⟨s0, hs0, rfl⟩ := isSh_s c14
      refine lv_aload_n hx hb dX11_lay_20 rfl (lv_at hl 0 rfl) ?_
      refine w_get (C := RX11) (T := TX11) (N := 27) 18 hx hb hts inX11 hown hw (by decide) o1 rfl (by decide) (hts _ tw_903) rfl dX11_lay_21 ?_
      refine lv_iload hx hb dX11_lay_24 (lv_at hl 4 rfl) ?_
      refine w_ialdN (j := s0) hx hb hw (by decide) b1 (rfl) (hs0) (by decide) dX11_lay_26 ?_
      refine lv_iconst (v := (-1)) hx hb dX11_lay_27 (by decide) ?_
      refine lv_icmp_ne (tgt := 34) hx hb dX11_lay_28 (by decide) (fun c28 => ?_) (fun c28 => ?_)
      · have hal := c6
        simp only [Bool.and_eq_true] at hal
        obtain ⟨⟨ha1, ha2⟩, ha3⟩ := hal
        obtain ⟨p0, hp0, rfl⟩ := isP_t ha1
        have ht := isSh_t ha3
        have hsz := sz_le ht
        have hszm := szN_m ht
        have hs9 := hsi s0 hs0
        have h40 := hz40 s0 hs0
        have hal9 := c6
        refine lv_iconst (v := 0) hx hb dX11_lay_34 (by decide) ?_
        refine lv_istore (lv' := [(5, _), (0, _), (1, _), (2, _), (3, _), (4, _)]) hx hb dX11_lay_35 hl (by decide) rfl (fun ls hl => ?_)
        have L37 : ∀ (N : Nat) (i : Nat) (fz : Nat → Int32) (h7 s7 : Int32), (i + N = min (szN t) (sz s0)) → (fz = itL it (ss s0) (og f n p0 d t) s0 i) → ∀ (c0 : Nat → va_E) (H : Heap) (locs : List Loc), (c0 = va_up (va_up c 42 (.inl (gI G, 160, .inl fz))) 32 (.inr (9, [.ref (gad G 33), .ref (gad G 34), .ref (gad G 35), .int (nI n), .int (nI n1), .int z, .int (h7), .int (s7), .ref (gad G 36), .ref (gad G 37), .int (nI rn), .ref (gad G 38), .int (nI tn), .int fr, .int tto, .int tk, .int wo, .ref (gad G 39), .ref (gad G 40), .ref (gad G 41), .ref (gad G 42), .ref (gad G 43), .ref (gad G 44), .int (nI n2), .int (nI qn), .int iz, .int (bi im)]))) → Hw G c0 s H → va_S (gA G) s.heap H locs → ∀ ls : Array Slot, lv_has ls 7 [(5, .int (nI i)), (4, .int (nI s0)), (3, .int t), (2, .int d), (1, .int (nI p0)), (0, .ref (gad G 32))] → W p l e ({ frames := 6, cells := 0, slots := 0, locals := 142 } : Room) s m (([.ref (gad G 32), .int (nI p0), .int d, .int t, .int (nI s0)] : List Value).toArray) below meth cd H locs 0 0 (MQ below (va_Qi (fun r (c9 : Nat → va_E) => ((isP (nI p0) && isDy d && isSh t && isSh (nI s0)) = false ∧ r = -2 ∧ c9 = c) ∨ (∃ j9, j9 < 4 ∧ (nI s0) = nI j9 ∧ (isP (nI p0) && isDy d && isSh t) = true ∧ ((ss j9 = -1 ∧ r = -11 ∧ c9 = c) ∨ (ss j9 ≠ -1 ∧ r = nI (min (szN t) (sz j9)) ∧ ∃ h8 s8 : Int32, c9 = va_up (va_up c 42 (.inl (gI G, 160, .inl (itL it (ss j9) (og f n (pN (nI p0)) d t) j9 (min (szN t) (sz j9)))))) 32 (.inr (9, [.ref (gad G 33), .ref (gad G 34), .ref (gad G 35), .int (nI n), .int (nI n1), .int z, .int (h8), .int (s8), .ref (gad G 36), .ref (gad G 37), .int (nI rn), .ref (gad G 38), .int (nI tn), .int fr, .int tto, .int tk, .int wo, .ref (gad G 39), .ref (gad G 40), .ref (gad G 41), .ref (gad G 42), .ref (gad G 43), .ref (gad G 44), .int (nI n2), .int (nI qn), .int iz, .int (bi im)])))))) (fun c9 t => Hw G c9 t t.heap) (gA G)) ([.ref (gad G 32), .int (nI p0), .int d, .int t, .int (nI s0)] : List Value).toArray s 0 0 (gA G)) (F0 m 37 ls []) := by
          intro N
          induction N with
          | zero =>
            intro i  fz  h7 s7  hN hz c0 H locs e0 hw hS ls hl
            have o1 : c0 32 = .inr (9, [.ref (gad G 33), .ref (gad G 34), .ref (gad G 35), .int (nI n), .int (nI n1), .int z, .int (h7), .int (s7), .ref (gad G 36), .ref (gad G 37), .int (nI rn), .ref (gad G 38), .int (nI tn), .int fr, .int tto, .int tk, .int wo, .ref (gad G 39), .ref (gad G 40), .ref (gad G 41), .ref (gad G 42), .ref (gad G 43), .ref (gad G 44), .int (nI n2), .int (nI qn), .int iz, .int (bi im)]) := by rw [e0]; exact vu_s
            have a1 : c0 33 = .inl (gI G, 132, .inl f) := by rw [e0]; exact vu_e (by decide) (vu_e (by decide) a1)
            have b1 : c0 40 = .inl (gI G, 4, .inl ss) := by rw [e0]; exact vu_e (by decide) (vu_e (by decide) b1)
            have b2 : c0 41 = .inl (gI G, 4, .inl si) := by rw [e0]; exact vu_e (by decide) (vu_e (by decide) b2)
            have b3 : c0 42 = .inl (gI G, 160, .inl fz) := by rw [e0]; exact vu_e (by decide) vu_s
            have hin : i = min (szN t) (sz s0) := by omega
            refine lv_iload hx hb dX11_lay_37 (lv_at hl 0 rfl) ?_
            refine lv_aload_n hx hb dX11_lay_39 rfl (lv_at hl 5 rfl) ?_
            refine w_get (C := RX11) (T := TX11) (N := 27) 19 hx hb hts inX11 hown hw (by decide) o1 rfl (by decide) (hts _ tw_904) rfl dX11_lay_40 ?_
            refine lv_iload hx hb dX11_lay_43 (lv_at hl 1 rfl) ?_
            refine w_ialdN (j := s0) hx hb hw (by decide) b2 (rfl) (hs0) (by decide) dX11_lay_45 ?_
            refine tp (y := nI (sz s0)) hs9 ?_
            refine lv_icmp_ge (tgt := 117) hx hb dX11_lay_46 (by decide) (fun c46 => ?_) (fun c46 => ?_)
            · refine lv_iload hx hb dX11_lay_117 (lv_at hl 0 rfl) ?_
              exact re_Q hx hb hr hlocks (rfl) hw hS dX11_lay_119 (Or.inr ⟨s0, hs0, rfl, hal9, Or.inr ⟨c28, by rw [hin], _, _, by rw [e0, hz, hin, pN_nI hp0]⟩⟩)
            · refine lv_iload hx hb dX11_lay_49 (lv_at hl 0 rfl) ?_
              refine lv_iload_n hx hb dX11_lay_51 rfl (lv_at hl 2 rfl) ?_
              refine cSe (rST (As := [_]) ⟨hx, hb, hml, hown, hts⟩ (k_X11_sizeOf l ) (cv_X11_sizeOf hts tw_1040 rfl rfl ⟨Nat.le_of_ble_eq_true rfl, Nat.le_of_ble_eq_true rfl⟩) rfl hl.1 rfl (by first | exact Nat.le_of_ble_eq_true rfl | decide) dX11_lay_52 ⟨Nat.zero_le _, Nat.zero_le _⟩) ?_
              refine tp (y := nI (szN t)) hszm ?_
              refine lv_icmp_ge (tgt := 117) hx hb dX11_lay_55 (by decide) (fun c55 => ?_) (fun q => absurd (nI_le (by have := (nI_ltI (by omega) (by omega)).mp (Int32.not_le.mp c46); omega) (by omega)) q)
              refine lv_iload hx hb dX11_lay_117 (lv_at hl 0 rfl) ?_
              exact re_Q hx hb hr hlocks (rfl) hw hS dX11_lay_119 (Or.inr ⟨s0, hs0, rfl, hal9, Or.inr ⟨c28, by rw [hin], _, _, by rw [e0, hz, hin, pN_nI hp0]⟩⟩)
          | succ N ih =>
            intro i  fz  h7 s7  hN hz c0 H locs e0 hw hS ls hl
            have o1 : c0 32 = .inr (9, [.ref (gad G 33), .ref (gad G 34), .ref (gad G 35), .int (nI n), .int (nI n1), .int z, .int (h7), .int (s7), .ref (gad G 36), .ref (gad G 37), .int (nI rn), .ref (gad G 38), .int (nI tn), .int fr, .int tto, .int tk, .int wo, .ref (gad G 39), .ref (gad G 40), .ref (gad G 41), .ref (gad G 42), .ref (gad G 43), .ref (gad G 44), .int (nI n2), .int (nI qn), .int iz, .int (bi im)]) := by rw [e0]; exact vu_s
            have a1 : c0 33 = .inl (gI G, 132, .inl f) := by rw [e0]; exact vu_e (by decide) (vu_e (by decide) a1)
            have b1 : c0 40 = .inl (gI G, 4, .inl ss) := by rw [e0]; exact vu_e (by decide) (vu_e (by decide) b1)
            have b2 : c0 41 = .inl (gI G, 4, .inl si) := by rw [e0]; exact vu_e (by decide) (vu_e (by decide) b2)
            have b3 : c0 42 = .inl (gI G, 160, .inl fz) := by rw [e0]; exact vu_e (by decide) vu_s
            refine lv_iload hx hb dX11_lay_37 (lv_at hl 0 rfl) ?_
            refine lv_aload_n hx hb dX11_lay_39 rfl (lv_at hl 5 rfl) ?_
            refine w_get (C := RX11) (T := TX11) (N := 27) 19 hx hb hts inX11 hown hw (by decide) o1 rfl (by decide) (hts _ tw_904) rfl dX11_lay_40 ?_
            refine lv_iload hx hb dX11_lay_43 (lv_at hl 1 rfl) ?_
            refine w_ialdN (j := s0) hx hb hw (by decide) b2 (rfl) (hs0) (by decide) dX11_lay_45 ?_
            refine tp (y := nI (sz s0)) hs9 ?_
            refine lv_icmp_ge (tgt := 117) hx hb dX11_lay_46 (by decide) (fun q => absurd q (nI_ge (by omega) (by omega))) (fun c46 => ?_)
            refine lv_iload hx hb dX11_lay_49 (lv_at hl 0 rfl) ?_
            refine lv_iload_n hx hb dX11_lay_51 rfl (lv_at hl 2 rfl) ?_
            refine cSe (rST (As := [_]) ⟨hx, hb, hml, hown, hts⟩ (k_X11_sizeOf l ) (cv_X11_sizeOf hts tw_1040 rfl rfl ⟨Nat.le_of_ble_eq_true rfl, Nat.le_of_ble_eq_true rfl⟩) rfl hl.1 rfl (by first | exact Nat.le_of_ble_eq_true rfl | decide) dX11_lay_52 ⟨Nat.zero_le _, Nat.zero_le _⟩) ?_
            refine tp (y := nI (szN t)) hszm ?_
            refine lv_icmp_ge (tgt := 117) hx hb dX11_lay_55 (by decide) (fun q => absurd q (nI_ge (by omega) (by omega))) (fun c55 => ?_)
            refine lv_aload_n hx hb dX11_lay_58 rfl (lv_at hl 5 rfl) ?_
            refine lv_iload_n hx hb dX11_lay_59 rfl (lv_at hl 4 rfl) ?_
            refine lv_iload_n hx hb dX11_lay_60 rfl (lv_at hl 2 rfl) ?_
            refine lv_iload hx hb dX11_lay_61 (lv_at hl 0 rfl) ?_
            refine cSe (rST (As := [_, _, _]) ⟨hx, hb, hml, hown, hts⟩ (k_X11_with l hp0 ht) (cv_X11_with hts tw_1101 rfl rfl ⟨Nat.le_of_ble_eq_true rfl, Nat.le_of_ble_eq_true rfl⟩) rfl hl.1 rfl (by first | exact Nat.le_of_ble_eq_true rfl | decide) dX11_lay_63 ⟨Nat.zero_le _, Nat.zero_le _⟩) ?_
            refine lv_iload_n hx hb dX11_lay_66 rfl (lv_at hl 3 rfl) ?_
            refine cQi (rV (As := [_, _]) ⟨hx, hb, hml, hown, hts⟩ hw (k_X11_isNow l o1 a1 hn (wth_lt hp0 ht (by omega)) hI) (cv_X11_isNow hts tw_1053 rfl rfl ⟨Nat.le_of_ble_eq_true rfl, Nat.le_of_ble_eq_true rfl⟩) (by decide) o1 rfl rfl hl.1 rfl (by first | exact Nat.le_of_ble_eq_true rfl | decide) dX11_lay_67 ⟨Nat.zero_le _, Nat.zero_le _⟩) hw hS (fun r67 w1 H locs hp67 hw hS => ?_)
            obtain ⟨er67, ec67⟩ := hp67
            subst er67
            have o1_1 : w1 32 = .inr (9, [.ref (gad G 33), .ref (gad G 34), .ref (gad G 35), .int (nI n), .int (nI n1), .int z, .int (hdM f n (wthN p0 t i) d), .int (stM f n (wthN p0 t i) d), .ref (gad G 36), .ref (gad G 37), .int (nI rn), .ref (gad G 38), .int (nI tn), .int fr, .int tto, .int tk, .int wo, .ref (gad G 39), .ref (gad G 40), .ref (gad G 41), .ref (gad G 42), .ref (gad G 43), .ref (gad G 44), .int (nI n2), .int (nI qn), .int iz, .int (bi im)]) := by rw [ec67]; exact vu_s
            have a1_1 : w1 33 = .inl (gI G, 132, .inl f) := by rw [ec67]; exact (vu_e (by decide) a1)
            have b1_1 : w1 40 = .inl (gI G, 4, .inl ss) := by rw [ec67]; exact (vu_e (by decide) b1)
            have b2_1 : w1 41 = .inl (gI G, 4, .inl si) := by rw [ec67]; exact (vu_e (by decide) b2)
            have b3_1 : w1 42 = .inl (gI G, 160, .inl fz) := by rw [ec67]; exact (vu_e (by decide) b3)
            refine lv_istore (lv' := [(6, _), (5, _), (4, _), (3, _), (2, _), (1, _), (0, _)]) hx hb dX11_lay_70 hl (by decide) rfl (fun ls hl => ?_)
            refine lv_aload_n hx hb dX11_lay_72 rfl (lv_at hl 6 rfl) ?_
            refine w_get (C := RX11) (T := TX11) (N := 27) 20 hx hb hts inX11 hown hw (by decide) o1_1 rfl (by decide) (hts _ tw_905) rfl dX11_lay_73 ?_
            refine lv_bipush (v := 40) hx hb dX11_lay_76 (by decide) ?_
            refine lv_iload hx hb dX11_lay_78 (lv_at hl 2 rfl) ?_
            refine lv_imul hx hb dX11_lay_80 ?_
            refine lv_iload hx hb dX11_lay_81 (lv_at hl 1 rfl) ?_
            refine lv_iadd hx hb dX11_lay_83 ?_
            refine lv_aload_n hx hb dX11_lay_84 rfl (lv_at hl 6 rfl) ?_
            refine w_get (C := RX11) (T := TX11) (N := 27) 18 hx hb hts inX11 hown hw (by decide) o1_1 rfl (by decide) (hts _ tw_903) rfl dX11_lay_85 ?_
            refine lv_iload hx hb dX11_lay_88 (lv_at hl 2 rfl) ?_
            refine w_ialdN (j := s0) hx hb hw (by decide) b1_1 (rfl) (hs0) (by decide) dX11_lay_90 ?_
            refine lv_iconst (v := 1) hx hb dX11_lay_91 (by decide) ?_
            refine lv_icmp_ne (tgt := 108) hx hb dX11_lay_92 (by decide) (fun c92 => ?_) (fun c92 => ?_)
            · refine lv_iload hx hb dX11_lay_108 (lv_at hl 0 rfl) ?_
              refine tp (y := if ss s0 = 1 then (if 0 < (og f n p0 d t) i then 1 else 0) else (og f n p0 d t) i) (by rw [if_neg c92]; rfl) ?_
              refine w_iastN (j := s0 * 40 + i) (x := if ss s0 = 1 then (if 0 < (og f n p0 d t) i then 1 else 0) else (og f n p0 d t) i) hx hb hw hX hS (by decide) b3_1 (ixm40 s0 i) (by omega) (by decide) dX11_lay_110 (fun H locs hw hS => ?_)
              obtain ⟨w2, ew2⟩ : ∃ wz9 : Nat → va_E, wz9 = va_up w1 42 (.inl (gI G, 160, .inl (upd fz (s0 * 40 + i) (if ss s0 = 1 then (if 0 < (og f n p0 d t) i then 1 else 0) else (og f n p0 d t) i)))) := ⟨_, rfl⟩
              have hw : Hw G w2 s H := by rw [ew2]; exact hw
              have o1_2 : w2 32 = .inr (9, [.ref (gad G 33), .ref (gad G 34), .ref (gad G 35), .int (nI n), .int (nI n1), .int z, .int (hdM f n (wthN p0 t i) d), .int (stM f n (wthN p0 t i) d), .ref (gad G 36), .ref (gad G 37), .int (nI rn), .ref (gad G 38), .int (nI tn), .int fr, .int tto, .int tk, .int wo, .ref (gad G 39), .ref (gad G 40), .ref (gad G 41), .ref (gad G 42), .ref (gad G 43), .ref (gad G 44), .int (nI n2), .int (nI qn), .int iz, .int (bi im)]) := by rw [ew2]; exact vu_e (by decide) o1_1
              have a1_2 : w2 33 = .inl (gI G, 132, .inl f) := by rw [ew2]; exact vu_e (by decide) a1_1
              have b1_2 : w2 40 = .inl (gI G, 4, .inl ss) := by rw [ew2]; exact vu_e (by decide) b1_1
              have b2_2 : w2 41 = .inl (gI G, 4, .inl si) := by rw [ew2]; exact vu_e (by decide) b2_1
              have b3_2 : w2 42 = .inl (gI G, 160, .inl (upd fz (s0 * 40 + i) (if ss s0 = 1 then (if 0 < (og f n p0 d t) i then 1 else 0) else (og f n p0 d t) i))) := by rw [ew2]; exact vu_s
              refine lv_iinc (v := nI (i + 1)) (lv' := [(5, _), (6, _), (4, _), (3, _), (2, _), (1, _), (0, _)]) hx hb dX11_lay_111 hl (k := 1) rfl (inc1 i) (by decide) rfl (fun ls hl => ?_)
              refine lv_goto (tgt := 37) hx hb dX11_lay_114 (by decide) ?_
              exact ih (i + 1) (itL it (ss s0) (og f n p0 d t) s0 (i + 1)) _ _ (by omega) rfl _ H locs (by rw [ew2, ec67, e0, up_up, up_sw (by decide : (32 : Nat) ≠ 42), up_up, hz, itL_s]) hw hS ls (lv_sub hl [0, 2, 3, 4, 5, 6] rfl)
            · refine lv_iload hx hb dX11_lay_95 (lv_at hl 0 rfl) ?_
              refine lv_if_le (tgt := 104) hx hb dX11_lay_97 (by decide) (fun c97 => ?_) (fun c97 => ?_)
              · refine lv_iconst (v := 0) hx hb dX11_lay_104 (by decide) ?_
                refine lv_goto (tgt := 110) hx hb dX11_lay_105 (by decide) ?_
                refine tp (y := if ss s0 = 1 then (if 0 < (og f n p0 d t) i then 1 else 0) else (og f n p0 d t) i) (by rw [if_pos c92, if_neg (show ¬ 0 < (og f n p0 d t) i from Int32.not_lt.mpr c97)]) ?_
                refine w_iastN (j := s0 * 40 + i) (x := if ss s0 = 1 then (if 0 < (og f n p0 d t) i then 1 else 0) else (og f n p0 d t) i) hx hb hw hX hS (by decide) b3_1 (ixm40 s0 i) (by omega) (by decide) dX11_lay_110 (fun H locs hw hS => ?_)
                obtain ⟨w3, ew3⟩ : ∃ wz9 : Nat → va_E, wz9 = va_up w1 42 (.inl (gI G, 160, .inl (upd fz (s0 * 40 + i) (if ss s0 = 1 then (if 0 < (og f n p0 d t) i then 1 else 0) else (og f n p0 d t) i)))) := ⟨_, rfl⟩
                have hw : Hw G w3 s H := by rw [ew3]; exact hw
                have o1_3 : w3 32 = .inr (9, [.ref (gad G 33), .ref (gad G 34), .ref (gad G 35), .int (nI n), .int (nI n1), .int z, .int (hdM f n (wthN p0 t i) d), .int (stM f n (wthN p0 t i) d), .ref (gad G 36), .ref (gad G 37), .int (nI rn), .ref (gad G 38), .int (nI tn), .int fr, .int tto, .int tk, .int wo, .ref (gad G 39), .ref (gad G 40), .ref (gad G 41), .ref (gad G 42), .ref (gad G 43), .ref (gad G 44), .int (nI n2), .int (nI qn), .int iz, .int (bi im)]) := by rw [ew3]; exact vu_e (by decide) o1_1
                have a1_3 : w3 33 = .inl (gI G, 132, .inl f) := by rw [ew3]; exact vu_e (by decide) a1_1
                have b1_3 : w3 40 = .inl (gI G, 4, .inl ss) := by rw [ew3]; exact vu_e (by decide) b1_1
                have b2_3 : w3 41 = .inl (gI G, 4, .inl si) := by rw [ew3]; exact vu_e (by decide) b2_1
                have b3_3 : w3 42 = .inl (gI G, 160, .inl (upd fz (s0 * 40 + i) (if ss s0 = 1 then (if 0 < (og f n p0 d t) i then 1 else 0) else (og f n p0 d t) i))) := by rw [ew3]; exact vu_s
                refine lv_iinc (v := nI (i + 1)) (lv' := [(5, _), (6, _), (4, _), (3, _), (2, _), (1, _), (0, _)]) hx hb dX11_lay_111 hl (k := 1) rfl (inc1 i) (by decide) rfl (fun ls hl => ?_)
                refine lv_goto (tgt := 37) hx hb dX11_lay_114 (by decide) ?_
                exact ih (i + 1) (itL it (ss s0) (og f n p0 d t) s0 (i + 1)) _ _ (by omega) rfl _ H locs (by rw [ew3, ec67, e0, up_up, up_sw (by decide : (32 : Nat) ≠ 42), up_up, hz, itL_s]) hw hS ls (lv_sub hl [0, 2, 3, 4, 5, 6] rfl)
              · skip
                refine lv_iconst (v := 1) hx hb dX11_lay_100 (by decide) ?_
                refine lv_goto (tgt := 110) hx hb dX11_lay_101 (by decide) ?_
                refine tp (y := if ss s0 = 1 then (if 0 < (og f n p0 d t) i then 1 else 0) else (og f n p0 d t) i) (by rw [if_pos c92, if_pos (show 0 < (og f n p0 d t) i from Int32.not_le.mp c97)]) ?_
                refine w_iastN (j := s0 * 40 + i) (x := if ss s0 = 1 then (if 0 < (og f n p0 d t) i then 1 else 0) else (og f n p0 d t) i) hx hb hw hX hS (by decide) b3_1 (ixm40 s0 i) (by omega) (by decide) dX11_lay_110 (fun H locs hw hS => ?_)
                obtain ⟨w4, ew4⟩ : ∃ wz9 : Nat → va_E, wz9 = va_up w1 42 (.inl (gI G, 160, .inl (upd fz (s0 * 40 + i) (if ss s0 = 1 then (if 0 < (og f n p0 d t) i then 1 else 0) else (og f n p0 d t) i)))) := ⟨_, rfl⟩
                have hw : Hw G w4 s H := by rw [ew4]; exact hw
                have o1_4 : w4 32 = .inr (9, [.ref (gad G 33), .ref (gad G 34), .ref (gad G 35), .int (nI n), .int (nI n1), .int z, .int (hdM f n (wthN p0 t i) d), .int (stM f n (wthN p0 t i) d), .ref (gad G 36), .ref (gad G 37), .int (nI rn), .ref (gad G 38), .int (nI tn), .int fr, .int tto, .int tk, .int wo, .ref (gad G 39), .ref (gad G 40), .ref (gad G 41), .ref (gad G 42), .ref (gad G 43), .ref (gad G 44), .int (nI n2), .int (nI qn), .int iz, .int (bi im)]) := by rw [ew4]; exact vu_e (by decide) o1_1
                have a1_4 : w4 33 = .inl (gI G, 132, .inl f) := by rw [ew4]; exact vu_e (by decide) a1_1
                have b1_4 : w4 40 = .inl (gI G, 4, .inl ss) := by rw [ew4]; exact vu_e (by decide) b1_1
                have b2_4 : w4 41 = .inl (gI G, 4, .inl si) := by rw [ew4]; exact vu_e (by decide) b2_1
                have b3_4 : w4 42 = .inl (gI G, 160, .inl (upd fz (s0 * 40 + i) (if ss s0 = 1 then (if 0 < (og f n p0 d t) i then 1 else 0) else (og f n p0 d t) i))) := by rw [ew4]; exact vu_s
                refine lv_iinc (v := nI (i + 1)) (lv' := [(5, _), (6, _), (4, _), (3, _), (2, _), (1, _), (0, _)]) hx hb dX11_lay_111 hl (k := 1) rfl (inc1 i) (by decide) rfl (fun ls hl => ?_)
                refine lv_goto (tgt := 37) hx hb dX11_lay_114 (by decide) ?_
                exact ih (i + 1) (itL it (ss s0) (og f n p0 d t) s0 (i + 1)) _ _ (by omega) rfl _ H locs (by rw [ew4, ec67, e0, up_up, up_sw (by decide : (32 : Nat) ≠ 42), up_up, hz, itL_s]) hw hS ls (lv_sub hl [0, 2, 3, 4, 5, 6] rfl)
        exact L37 (min (szN t) (sz s0)) 0 it hd sd (by omega) (itL_0 _ _ _ _).symm _ H locs (by rw [up_id b3]; exact (up_id o1).symm) hw hS ls (lv_sub hl [0, 5, 4, 3, 2, 1] rfl)
      · refine lv_bipush (v := (-11)) hx hb dX11_lay_31 (by decide) ?_
        exact re_Q hx hb hr hlocks (rfl) hw hS dX11_lay_33 (Or.inr ⟨s0, hs0, rfl, c6, Or.inl ⟨c28, rfl, rfl⟩⟩)
    · refine lv_bipush (v := (-2)) hx hb dX11_lay_17 (by decide) ?_
      exact re_Q hx hb hr hlocks (rfl) hw hS dX11_lay_19 (Or.inl ⟨by simp [c6, c14], rfl, rfl⟩)
