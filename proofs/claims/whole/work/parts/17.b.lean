section LC
variable {p : Program} {l : Launch} {e : Env} {s : State} {m : MethodId} {below : List Frame} {meth : Method} {cd : Code} {b L : Nat} {xs : Nat → Int32} {G : GT} {Q : State → Prop} {c : Nat → va_E} {H : Heap} {locs : List Loc} {ls : Array Slot} {i : Nat}
set_option maxHeartbeats 4000000 in
set_option maxRecDepth 100000 in
theorem lc_14 (hx : p.tables.exec = Jvm.exec) (hb : cd.code = code) (hml : cd.maxLocals = 4) (hown : s.vm.findClass RL = some m.cls) (hts : ∀ w ∈ WT, w.before #[Value.ref b] s = true) (hX : va_X b L xs s s.heap) (hbl : b < s.heap.size) (hbA : ¬ gA G b) (hi : i + 6 ≤ L) (hL : L ≤ 3072) (hJ : JJ G c) (hw : Hw G c s H) (hS : va_S (gA G) s.heap H locs) (hl : lv_has ls 4 [(0, .ref b), (1, .ref (gad G 0)), (2, .ref (gad G 32)), (3, .int (nI i))]) (K : ∀ (c1 : Nat → va_E) (H1 : Heap) (locs1 : List Loc), JJ G c1 → Hw G c1 s H1 → va_S (gA G) s.heap H1 locs1 → W p l e room_1 s m #[Value.ref b] below meth cd H1 locs1 45 2483 Q (F0 m 1630 ls [])) : W p l e room_1 s m #[Value.ref b] below meth cd H locs 45 2483 Q (F0 m 780 ls []) := by
  obtain ⟨im, iz, z, n, n1, n2, rn, qn, tn, f, f1, f2, rf, rt, qf, qt, tf, ss, sz, sg, si, it, lw, cl, kn, kk, ks, kv, m0, g, hd, sd, fr, tto, tk, wo, hA, hB, hP⟩ := hJ
  refine lv_aload_n hx hb dL_780 rfl (lv_at hl 1 rfl) ?_
  refine ld5 (k := 1) (kn := 1) hx hb hX hbl hbA hS hi hL hl rfl (by decide) (by decide) dL_781 dL_782 dL_783 dL_784 dL_785 ?_
  refine ld5 (k := 2) (kn := 2) hx hb hX hbl hbA hS hi hL hl rfl (by decide) (by decide) dL_786 dL_787 dL_788 dL_789 dL_790 ?_
  refine ld5 (k := 3) (kn := 3) hx hb hX hbl hbA hS hi hL hl rfl (by decide) (by decide) dL_791 dL_792 dL_793 dL_794 dL_795 ?_
  refine ld5 (k := 4) (kn := 4) hx hb hX hbl hbA hS hi hL hl rfl (by decide) (by decide) dL_796 dL_797 dL_798 dL_799 dL_800 ?_
  refine cQi (rV (As := [_, _, _, _]) ⟨hx, hb, hml, hown, hts⟩ hw (k_X10_jumps l (hA.1) (hA.2.1) (hA.2.2.1) (hP.1) (hA.2.2.2.2.2.2.2.2.2.2.2.2.2.2.2.2.1) (hA.2.2.2.2.2.2.2.2.2.2.2.2.2.2.2.2.2.1) (hP.2.2.2.2.2.2.2.2.2.2.2.2.2)) (cv_X10_jumps hts tw_383 rfl rfl ⟨Nat.le_of_ble_eq_true rfl, Nat.le_of_ble_eq_true rfl⟩) (by decide) (hA.1) rfl rfl hl.1 rfl (by first | exact Nat.le_of_ble_eq_true rfl | decide) dL_801 ⟨Nat.le_of_ble_eq_true rfl, Nat.le_of_ble_eq_true rfl⟩) hw hS (fun r1 c1 H locs p1 hw hS => ?_)
  have frm := jf_jumps hA hB hP p1
  refine lv_aload_n hx hb dL_804 rfl (lv_at hl 2 rfl) ?_
  refine ld5 (k := 1) (kn := 1) hx hb hX hbl hbA hS hi hL hl rfl (by decide) (by decide) dL_805 dL_806 dL_807 dL_808 dL_809 ?_
  refine ld5 (k := 2) (kn := 2) hx hb hX hbl hbA hS hi hL hl rfl (by decide) (by decide) dL_810 dL_811 dL_812 dL_813 dL_814 ?_
  refine ld5 (k := 3) (kn := 3) hx hb hX hbl hbA hS hi hL hl rfl (by decide) (by decide) dL_815 dL_816 dL_817 dL_818 dL_819 ?_
  refine ld5 (k := 4) (kn := 4) hx hb hX hbl hbA hS hi hL hl rfl (by decide) (by decide) dL_820 dL_821 dL_822 dL_823 dL_824 ?_
  refine cQi (rV (As := [_, _, _, _]) ⟨hx, hb, hml, hown, hts⟩ hw (k_X11_jumps l ((frm 32 (by decide)).trans (hB.1)) ((frm 33 (by decide)).trans (hB.2.1)) (hP.1) (hP.2.2.2.2.2.2.1)) (cv_X11_jumps hts tw_1104 rfl rfl ⟨Nat.le_of_ble_eq_true rfl, Nat.le_of_ble_eq_true rfl⟩) (by decide) ((frm 32 (by decide)).trans (hB.1)) rfl rfl hl.1 rfl (by first | exact Nat.le_of_ble_eq_true rfl | decide) dL_825 ⟨Nat.le_of_ble_eq_true rfl, Nat.le_of_ble_eq_true rfl⟩) hw hS (fun r2 c2 H locs p2 hw hS => ?_)
  have jc := jc_jumps hA hB hP p1 p2
  refine lv_icmp_eq (tgt := 1630) hx hb dL_828 (by decide) (fun _ => ?_) (fun q => absurd (jc.1) q)
  exact K _ _ _ (jc.2) hw hS
set_option maxHeartbeats 4000000 in
set_option maxRecDepth 100000 in
theorem lc_15 (hx : p.tables.exec = Jvm.exec) (hb : cd.code = code) (hml : cd.maxLocals = 4) (hown : s.vm.findClass RL = some m.cls) (hts : ∀ w ∈ WT, w.before #[Value.ref b] s = true) (hX : va_X b L xs s s.heap) (hbl : b < s.heap.size) (hbA : ¬ gA G b) (hi : i + 6 ≤ L) (hL : L ≤ 3072) (hJ : JJ G c) (hw : Hw G c s H) (hS : va_S (gA G) s.heap H locs) (hl : lv_has ls 4 [(0, .ref b), (1, .ref (gad G 0)), (2, .ref (gad G 32)), (3, .int (nI i))]) (K : ∀ (c1 : Nat → va_E) (H1 : Heap) (locs1 : List Loc), JJ G c1 → Hw G c1 s H1 → va_S (gA G) s.heap H1 locs1 → W p l e room_1 s m #[Value.ref b] below meth cd H1 locs1 45 2483 Q (F0 m 1630 ls [])) : W p l e room_1 s m #[Value.ref b] below meth cd H locs 45 2483 Q (F0 m 833 ls []) := by
  obtain ⟨im, iz, z, n, n1, n2, rn, qn, tn, f, f1, f2, rf, rt, qf, qt, tf, ss, sz, sg, si, it, lw, cl, kn, kk, ks, kv, m0, g, hd, sd, fr, tto, tk, wo, hA, hB, hP⟩ := hJ
  refine lv_aload_n hx hb dL_833 rfl (lv_at hl 1 rfl) ?_
  refine ld5 (k := 1) (kn := 1) hx hb hX hbl hbA hS hi hL hl rfl (by decide) (by decide) dL_834 dL_835 dL_836 dL_837 dL_838 ?_
  refine ld5 (k := 2) (kn := 2) hx hb hX hbl hbA hS hi hL hl rfl (by decide) (by decide) dL_839 dL_840 dL_841 dL_842 dL_843 ?_
  refine ld5 (k := 3) (kn := 3) hx hb hX hbl hbA hS hi hL hl rfl (by decide) (by decide) dL_844 dL_845 dL_846 dL_847 dL_848 ?_
  refine ld5 (k := 4) (kn := 4) hx hb hX hbl hbA hS hi hL hl rfl (by decide) (by decide) dL_849 dL_850 dL_851 dL_852 dL_853 ?_
  refine cQi (rV (As := [_, _, _, _]) ⟨hx, hb, hml, hown, hts⟩ hw (k_X10_bends l (hA.1) (hA.2.1) (hA.2.2.1) (hP.1) (hA.2.2.2.2.2.2.2.2.2.2.2.2.2.2.2.2.1) (hA.2.2.2.2.2.2.2.2.2.2.2.2.2.2.2.2.2.1) (hP.2.2.2.2.2.2.2.2.2.2.2.2.2)) (cv_X10_bends hts tw_413 rfl rfl ⟨Nat.le_of_ble_eq_true rfl, Nat.le_of_ble_eq_true rfl⟩) (by decide) (hA.1) rfl rfl hl.1 rfl (by first | exact Nat.le_of_ble_eq_true rfl | decide) dL_854 ⟨Nat.le_of_ble_eq_true rfl, Nat.le_of_ble_eq_true rfl⟩) hw hS (fun r1 c1 H locs p1 hw hS => ?_)
  have frm := jf_bends hA hB hP p1
  refine lv_aload_n hx hb dL_857 rfl (lv_at hl 2 rfl) ?_
  refine ld5 (k := 1) (kn := 1) hx hb hX hbl hbA hS hi hL hl rfl (by decide) (by decide) dL_858 dL_859 dL_860 dL_861 dL_862 ?_
  refine ld5 (k := 2) (kn := 2) hx hb hX hbl hbA hS hi hL hl rfl (by decide) (by decide) dL_863 dL_864 dL_865 dL_866 dL_867 ?_
  refine ld5 (k := 3) (kn := 3) hx hb hX hbl hbA hS hi hL hl rfl (by decide) (by decide) dL_868 dL_869 dL_870 dL_871 dL_872 ?_
  refine ld5 (k := 4) (kn := 4) hx hb hX hbl hbA hS hi hL hl rfl (by decide) (by decide) dL_873 dL_874 dL_875 dL_876 dL_877 ?_
  refine cQi (rV (As := [_, _, _, _]) ⟨hx, hb, hml, hown, hts⟩ hw (k_X11_bends l ((frm 32 (by decide)).trans (hB.1)) ((frm 33 (by decide)).trans (hB.2.1)) (hP.1) (hP.2.2.2.2.2.2.1)) (cv_X11_bends hts tw_1108 rfl rfl ⟨Nat.le_of_ble_eq_true rfl, Nat.le_of_ble_eq_true rfl⟩) (by decide) ((frm 32 (by decide)).trans (hB.1)) rfl rfl hl.1 rfl (by first | exact Nat.le_of_ble_eq_true rfl | decide) dL_878 ⟨Nat.le_of_ble_eq_true rfl, Nat.le_of_ble_eq_true rfl⟩) hw hS (fun r2 c2 H locs p2 hw hS => ?_)
  have jc := jc_bends hA hB hP p1 p2
  refine lv_icmp_eq (tgt := 1630) hx hb dL_881 (by decide) (fun _ => ?_) (fun q => absurd (jc.1) q)
  exact K _ _ _ (jc.2) hw hS
set_option maxHeartbeats 4000000 in
set_option maxRecDepth 100000 in
theorem lc_16 (hx : p.tables.exec = Jvm.exec) (hb : cd.code = code) (hml : cd.maxLocals = 4) (hown : s.vm.findClass RL = some m.cls) (hts : ∀ w ∈ WT, w.before #[Value.ref b] s = true) (hX : va_X b L xs s s.heap) (hbl : b < s.heap.size) (hbA : ¬ gA G b) (hi : i + 6 ≤ L) (hL : L ≤ 3072) (hJ : JJ G c) (hw : Hw G c s H) (hS : va_S (gA G) s.heap H locs) (hl : lv_has ls 4 [(0, .ref b), (1, .ref (gad G 0)), (2, .ref (gad G 32)), (3, .int (nI i))]) (K : ∀ (c1 : Nat → va_E) (H1 : Heap) (locs1 : List Loc), JJ G c1 → Hw G c1 s H1 → va_S (gA G) s.heap H1 locs1 → W p l e room_1 s m #[Value.ref b] below meth cd H1 locs1 45 2483 Q (F0 m 1630 ls [])) : W p l e room_1 s m #[Value.ref b] below meth cd H locs 45 2483 Q (F0 m 886 ls []) := by
  obtain ⟨im, iz, z, n, n1, n2, rn, qn, tn, f, f1, f2, rf, rt, qf, qt, tf, ss, sz, sg, si, it, lw, cl, kn, kk, ks, kv, m0, g, hd, sd, fr, tto, tk, wo, hA, hB, hP⟩ := hJ
  refine lv_aload_n hx hb dL_886 rfl (lv_at hl 1 rfl) ?_
  refine ld5 (k := 1) (kn := 1) hx hb hX hbl hbA hS hi hL hl rfl (by decide) (by decide) dL_887 dL_888 dL_889 dL_890 dL_891 ?_
  refine ld5 (k := 2) (kn := 2) hx hb hX hbl hbA hS hi hL hl rfl (by decide) (by decide) dL_892 dL_893 dL_894 dL_895 dL_896 ?_
  refine ld5 (k := 3) (kn := 3) hx hb hX hbl hbA hS hi hL hl rfl (by decide) (by decide) dL_897 dL_898 dL_899 dL_900 dL_901 ?_
  refine ld5 (k := 4) (kn := 4) hx hb hX hbl hbA hS hi hL hl rfl (by decide) (by decide) dL_902 dL_903 dL_904 dL_905 dL_906 ?_
  refine cQi (rV (As := [_, _, _, _]) ⟨hx, hb, hml, hown, hts⟩ hw (k_X10_enough l (hA.1) (hA.2.1) (hA.2.2.1) (hP.1) (hA.2.2.2.2.2.2.2.2.2.2.2.2.2.2.2.2.1) (hA.2.2.2.2.2.2.2.2.2.2.2.2.2.2.2.2.2.1) (hP.2.2.2.2.2.2.2.2.2.2.2.2.2)) (cv_X10_enough hts tw_433 rfl rfl ⟨Nat.le_of_ble_eq_true rfl, Nat.le_of_ble_eq_true rfl⟩) (by decide) (hA.1) rfl rfl hl.1 rfl (by first | exact Nat.le_of_ble_eq_true rfl | decide) dL_907 ⟨Nat.le_of_ble_eq_true rfl, Nat.le_of_ble_eq_true rfl⟩) hw hS (fun r1 c1 H locs p1 hw hS => ?_)
  have frm := jf_enough hA hB hP p1
  refine lv_aload_n hx hb dL_910 rfl (lv_at hl 2 rfl) ?_
  refine ld5 (k := 1) (kn := 1) hx hb hX hbl hbA hS hi hL hl rfl (by decide) (by decide) dL_911 dL_912 dL_913 dL_914 dL_915 ?_
  refine ld5 (k := 2) (kn := 2) hx hb hX hbl hbA hS hi hL hl rfl (by decide) (by decide) dL_916 dL_917 dL_918 dL_919 dL_920 ?_
  refine ld5 (k := 3) (kn := 3) hx hb hX hbl hbA hS hi hL hl rfl (by decide) (by decide) dL_921 dL_922 dL_923 dL_924 dL_925 ?_
  refine ld5 (k := 4) (kn := 4) hx hb hX hbl hbA hS hi hL hl rfl (by decide) (by decide) dL_926 dL_927 dL_928 dL_929 dL_930 ?_
  refine cQi (rV (As := [_, _, _, _]) ⟨hx, hb, hml, hown, hts⟩ hw (k_X11_enough l ((frm 32 (by decide)).trans (hB.1)) ((frm 33 (by decide)).trans (hB.2.1)) (hP.1) (hP.2.2.2.2.2.2.1)) (cv_X11_enough hts tw_1112 rfl rfl ⟨Nat.le_of_ble_eq_true rfl, Nat.le_of_ble_eq_true rfl⟩) (by decide) ((frm 32 (by decide)).trans (hB.1)) rfl rfl hl.1 rfl (by first | exact Nat.le_of_ble_eq_true rfl | decide) dL_931 ⟨Nat.le_of_ble_eq_true rfl, Nat.le_of_ble_eq_true rfl⟩) hw hS (fun r2 c2 H locs p2 hw hS => ?_)
  have jc := jc_enough hA hB hP p1 p2
  refine lv_icmp_eq (tgt := 1630) hx hb dL_934 (by decide) (fun _ => ?_) (fun q => absurd (jc.1) q)
  exact K _ _ _ (jc.2) hw hS
set_option maxHeartbeats 4000000 in
set_option maxRecDepth 100000 in
theorem lc_17 (hx : p.tables.exec = Jvm.exec) (hb : cd.code = code) (hml : cd.maxLocals = 4) (hown : s.vm.findClass RL = some m.cls) (hts : ∀ w ∈ WT, w.before #[Value.ref b] s = true) (hX : va_X b L xs s s.heap) (hbl : b < s.heap.size) (hbA : ¬ gA G b) (hi : i + 6 ≤ L) (hL : L ≤ 3072) (hJ : JJ G c) (hw : Hw G c s H) (hS : va_S (gA G) s.heap H locs) (hl : lv_has ls 4 [(0, .ref b), (1, .ref (gad G 0)), (2, .ref (gad G 32)), (3, .int (nI i))]) (K : ∀ (c1 : Nat → va_E) (H1 : Heap) (locs1 : List Loc), JJ G c1 → Hw G c1 s H1 → va_S (gA G) s.heap H1 locs1 → W p l e room_1 s m #[Value.ref b] below meth cd H1 locs1 45 2483 Q (F0 m 1630 ls [])) : W p l e room_1 s m #[Value.ref b] below meth cd H locs 45 2483 Q (F0 m 939 ls []) := by
  obtain ⟨im, iz, z, n, n1, n2, rn, qn, tn, f, f1, f2, rf, rt, qf, qt, tf, ss, sz, sg, si, it, lw, cl, kn, kk, ks, kv, m0, g, hd, sd, fr, tto, tk, wo, hA, hB, hP⟩ := hJ
  refine lv_aload_n hx hb dL_939 rfl (lv_at hl 1 rfl) ?_
  refine ld5 (k := 1) (kn := 1) hx hb hX hbl hbA hS hi hL hl rfl (by decide) (by decide) dL_940 dL_941 dL_942 dL_943 dL_944 ?_
  refine ld5 (k := 2) (kn := 2) hx hb hX hbl hbA hS hi hL hl rfl (by decide) (by decide) dL_945 dL_946 dL_947 dL_948 dL_949 ?_
  refine ld5 (k := 3) (kn := 3) hx hb hX hbl hbA hS hi hL hl rfl (by decide) (by decide) dL_950 dL_951 dL_952 dL_953 dL_954 ?_
  refine cSl (rV (As := [_, _, _]) ⟨hx, hb, hml, hown, hts⟩ hw (k_X10_share l (hA.1) (hA.2.1) (hA.2.2.1) (hP.1)) (cv_X10_share hts tw_441 rfl rfl ⟨Nat.le_of_ble_eq_true rfl, Nat.le_of_ble_eq_true rfl⟩) (by decide) (hA.1) rfl rfl hl.1 rfl (by first | exact Nat.le_of_ble_eq_true rfl | decide) dL_955 ⟨Nat.le_of_ble_eq_true rfl, Nat.le_of_ble_eq_true rfl⟩) ?_
  refine lv_aload_n hx hb dL_958 rfl (lv_at hl 2 rfl) ?_
  refine ld5 (k := 1) (kn := 1) hx hb hX hbl hbA hS hi hL hl rfl (by decide) (by decide) dL_959 dL_960 dL_961 dL_962 dL_963 ?_
  refine ld5 (k := 2) (kn := 2) hx hb hX hbl hbA hS hi hL hl rfl (by decide) (by decide) dL_964 dL_965 dL_966 dL_967 dL_968 ?_
  refine ld5 (k := 3) (kn := 3) hx hb hX hbl hbA hS hi hL hl rfl (by decide) (by decide) dL_969 dL_970 dL_971 dL_972 dL_973 ?_
  refine cQl (rV (As := [_, _, _]) ⟨hx, hb, hml, hown, hts⟩ hw (k_X11_share l (hB.1) (hB.2.1) (hP.1) (hP.2.2.2.2.2.2.1)) (cv_X11_share hts tw_1116 rfl rfl ⟨Nat.le_of_ble_eq_true rfl, Nat.le_of_ble_eq_true rfl⟩) (by decide) (hB.1) rfl rfl hl.1 rfl (by first | exact Nat.le_of_ble_eq_true rfl | decide) dL_974 ⟨Nat.le_of_ble_eq_true rfl, Nat.le_of_ble_eq_true rfl⟩) hw hS (fun r2 c2 H locs p2 hw hS => ?_)
  have jc := jc_share hA hB hP p2
  refine W.lcmp hx hb dL_977 ?_
  refine lv_if_eq (tgt := 1630) hx hb dL_978 (by decide) (fun _ => ?_) (fun q => absurd (lg_same (jc.1)) q)
  exact K _ _ _ (jc.2) hw hS
set_option maxHeartbeats 4000000 in
set_option maxRecDepth 100000 in
theorem lc_18 (hx : p.tables.exec = Jvm.exec) (hb : cd.code = code) (hml : cd.maxLocals = 4) (hown : s.vm.findClass RL = some m.cls) (hts : ∀ w ∈ WT, w.before #[Value.ref b] s = true) (hX : va_X b L xs s s.heap) (hbl : b < s.heap.size) (hbA : ¬ gA G b) (hi : i + 6 ≤ L) (hL : L ≤ 3072) (hJ : JJ G c) (hw : Hw G c s H) (hS : va_S (gA G) s.heap H locs) (hl : lv_has ls 4 [(0, .ref b), (1, .ref (gad G 0)), (2, .ref (gad G 32)), (3, .int (nI i))]) (K : ∀ (c1 : Nat → va_E) (H1 : Heap) (locs1 : List Loc), JJ G c1 → Hw G c1 s H1 → va_S (gA G) s.heap H1 locs1 → W p l e room_1 s m #[Value.ref b] below meth cd H1 locs1 45 2483 Q (F0 m 1630 ls [])) : W p l e room_1 s m #[Value.ref b] below meth cd H locs 45 2483 Q (F0 m 983 ls []) := by
  obtain ⟨im, iz, z, n, n1, n2, rn, qn, tn, f, f1, f2, rf, rt, qf, qt, tf, ss, sz, sg, si, it, lw, cl, kn, kk, ks, kv, m0, g, hd, sd, fr, tto, tk, wo, hA, hB, hP⟩ := hJ
  refine lv_aload_n hx hb dL_983 rfl (lv_at hl 1 rfl) ?_
  refine ld5 (k := 1) (kn := 1) hx hb hX hbl hbA hS hi hL hl rfl (by decide) (by decide) dL_984 dL_985 dL_986 dL_987 dL_988 ?_
  refine ld5 (k := 2) (kn := 2) hx hb hX hbl hbA hS hi hL hl rfl (by decide) (by decide) dL_989 dL_990 dL_991 dL_992 dL_993 ?_
  refine cQi (rV (As := [_, _]) ⟨hx, hb, hml, hown, hts⟩ hw (k_X10_mean l (hA.1) (hA.2.1) (hA.2.2.1) (hP.1) (hA.2.2.2.2.2.2.2.2.1) (hP.2.2.2.2.2.2.1)) (cv_X10_mean hts tw_453 rfl rfl ⟨Nat.le_of_ble_eq_true rfl, Nat.le_of_ble_eq_true rfl⟩) (by decide) (hA.1) rfl rfl hl.1 rfl (by first | exact Nat.le_of_ble_eq_true rfl | decide) dL_994 ⟨Nat.le_of_ble_eq_true rfl, Nat.le_of_ble_eq_true rfl⟩) hw hS (fun r1 c1 H locs p1 hw hS => ?_)
  have frm := jf_mean hA hB hP p1
  refine lv_aload_n hx hb dL_997 rfl (lv_at hl 2 rfl) ?_
  refine ld5 (k := 1) (kn := 1) hx hb hX hbl hbA hS hi hL hl rfl (by decide) (by decide) dL_998 dL_999 dL_1000 dL_1001 dL_1002 ?_
  refine ld5 (k := 2) (kn := 2) hx hb hX hbl hbA hS hi hL hl rfl (by decide) (by decide) dL_1003 dL_1004 dL_1005 dL_1006 dL_1007 ?_
  refine cQi (rV (As := [_, _]) ⟨hx, hb, hml, hown, hts⟩ hw (k_X11_mean l ((frm 32 (by decide)).trans (hB.1)) ((frm 33 (by decide)).trans (hB.2.1)) (hP.1) (hP.2.2.2.2.2.2.1)) (cv_X11_mean hts tw_1131 rfl rfl ⟨Nat.le_of_ble_eq_true rfl, Nat.le_of_ble_eq_true rfl⟩) (by decide) ((frm 32 (by decide)).trans (hB.1)) rfl rfl hl.1 rfl (by first | exact Nat.le_of_ble_eq_true rfl | decide) dL_1008 ⟨Nat.le_of_ble_eq_true rfl, Nat.le_of_ble_eq_true rfl⟩) hw hS (fun r2 c2 H locs p2 hw hS => ?_)
  have jc := jc_mean hA hB hP p1 p2
  refine lv_icmp_eq (tgt := 1630) hx hb dL_1011 (by decide) (fun _ => ?_) (fun q => absurd (jc.1) q)
  exact K _ _ _ (jc.2) hw hS
set_option maxHeartbeats 4000000 in
set_option maxRecDepth 100000 in
theorem lc_19 (hx : p.tables.exec = Jvm.exec) (hb : cd.code = code) (hml : cd.maxLocals = 4) (hown : s.vm.findClass RL = some m.cls) (hts : ∀ w ∈ WT, w.before #[Value.ref b] s = true) (hX : va_X b L xs s s.heap) (hbl : b < s.heap.size) (hbA : ¬ gA G b) (hi : i + 6 ≤ L) (hL : L ≤ 3072) (hJ : JJ G c) (hw : Hw G c s H) (hS : va_S (gA G) s.heap H locs) (hl : lv_has ls 4 [(0, .ref b), (1, .ref (gad G 0)), (2, .ref (gad G 32)), (3, .int (nI i))]) (K : ∀ (c1 : Nat → va_E) (H1 : Heap) (locs1 : List Loc), JJ G c1 → Hw G c1 s H1 → va_S (gA G) s.heap H1 locs1 → W p l e room_1 s m #[Value.ref b] below meth cd H1 locs1 45 2483 Q (F0 m 1630 ls [])) : W p l e room_1 s m #[Value.ref b] below meth cd H locs 45 2483 Q (F0 m 1016 ls []) := by
  obtain ⟨im, iz, z, n, n1, n2, rn, qn, tn, f, f1, f2, rf, rt, qf, qt, tf, ss, sz, sg, si, it, lw, cl, kn, kk, ks, kv, m0, g, hd, sd, fr, tto, tk, wo, hA, hB, hP⟩ := hJ
  refine lv_aload_n hx hb dL_1016 rfl (lv_at hl 1 rfl) ?_
  refine ld5 (k := 1) (kn := 1) hx hb hX hbl hbA hS hi hL hl rfl (by decide) (by decide) dL_1017 dL_1018 dL_1019 dL_1020 dL_1021 ?_
  refine ld5 (k := 2) (kn := 2) hx hb hX hbl hbA hS hi hL hl rfl (by decide) (by decide) dL_1022 dL_1023 dL_1024 dL_1025 dL_1026 ?_
  refine cSe (rV (As := [_, _]) ⟨hx, hb, hml, hown, hts⟩ hw (k_X10_until l (hA.1) (hA.2.1) (hA.2.2.1) (hP.1)) (cv_X10_until hts tw_473 rfl rfl ⟨Nat.le_of_ble_eq_true rfl, Nat.le_of_ble_eq_true rfl⟩) (by decide) (hA.1) rfl rfl hl.1 rfl (by first | exact Nat.le_of_ble_eq_true rfl | decide) dL_1027 ⟨Nat.le_of_ble_eq_true rfl, Nat.le_of_ble_eq_true rfl⟩) ?_
  refine lv_aload_n hx hb dL_1030 rfl (lv_at hl 2 rfl) ?_
  refine ld5 (k := 1) (kn := 1) hx hb hX hbl hbA hS hi hL hl rfl (by decide) (by decide) dL_1031 dL_1032 dL_1033 dL_1034 dL_1035 ?_
  refine ld5 (k := 2) (kn := 2) hx hb hX hbl hbA hS hi hL hl rfl (by decide) (by decide) dL_1036 dL_1037 dL_1038 dL_1039 dL_1040 ?_
  refine cQi (rV (As := [_, _]) ⟨hx, hb, hml, hown, hts⟩ hw (k_X11_until l (hB.1) (hB.2.1) (hP.1) (hP.2.2.2.2.2.2.1)) (cv_X11_until hts tw_1154 rfl rfl ⟨Nat.le_of_ble_eq_true rfl, Nat.le_of_ble_eq_true rfl⟩) (by decide) (hB.1) rfl rfl hl.1 rfl (by first | exact Nat.le_of_ble_eq_true rfl | decide) dL_1041 ⟨Nat.le_of_ble_eq_true rfl, Nat.le_of_ble_eq_true rfl⟩) hw hS (fun r2 c2 H locs p2 hw hS => ?_)
  have jc := jc_until hA hB hP p2
  refine lv_icmp_eq (tgt := 1630) hx hb dL_1044 (by decide) (fun _ => ?_) (fun q => absurd (jc.1) q)
  exact K _ _ _ (jc.2) hw hS
set_option maxHeartbeats 4000000 in
set_option maxRecDepth 100000 in
theorem lc_20 (hx : p.tables.exec = Jvm.exec) (hb : cd.code = code) (hml : cd.maxLocals = 4) (hown : s.vm.findClass RL = some m.cls) (hts : ∀ w ∈ WT, w.before #[Value.ref b] s = true) (hX : va_X b L xs s s.heap) (hbl : b < s.heap.size) (hbA : ¬ gA G b) (hi : i + 6 ≤ L) (hL : L ≤ 3072) (hJ : JJ G c) (hw : Hw G c s H) (hS : va_S (gA G) s.heap H locs) (hl : lv_has ls 4 [(0, .ref b), (1, .ref (gad G 0)), (2, .ref (gad G 32)), (3, .int (nI i))]) (K : ∀ (c1 : Nat → va_E) (H1 : Heap) (locs1 : List Loc), JJ G c1 → Hw G c1 s H1 → va_S (gA G) s.heap H1 locs1 → W p l e room_1 s m #[Value.ref b] below meth cd H1 locs1 45 2483 Q (F0 m 1630 ls [])) : W p l e room_1 s m #[Value.ref b] below meth cd H locs 45 2483 Q (F0 m 1049 ls []) := by
  obtain ⟨im, iz, z, n, n1, n2, rn, qn, tn, f, f1, f2, rf, rt, qf, qt, tf, ss, sz, sg, si, it, lw, cl, kn, kk, ks, kv, m0, g, hd, sd, fr, tto, tk, wo, hA, hB, hP⟩ := hJ
  refine lv_aload_n hx hb dL_1049 rfl (lv_at hl 1 rfl) ?_
  refine cQi (rV (As := []) ⟨hx, hb, hml, hown, hts⟩ hw (k_X10_mark l (hA.1) (hA.2.1) (hA.2.2.1) (hP.1) (hA.2.2.2.1) (hA.2.2.2.2.1) (hP.2.1)) (cv_X10_mark hts tw_481 rfl rfl ⟨Nat.le_of_ble_eq_true rfl, Nat.le_of_ble_eq_true rfl⟩) (by decide) (hA.1) rfl rfl hl.1 rfl (by first | exact Nat.le_of_ble_eq_true rfl | decide) dL_1050 ⟨Nat.le_of_ble_eq_true rfl, Nat.le_of_ble_eq_true rfl⟩) hw hS (fun r1 c1 H locs p1 hw hS => ?_)
  have frm := jf_mark hA hB hP p1
  refine lv_aload_n hx hb dL_1053 rfl (lv_at hl 2 rfl) ?_
  refine cQi (rV (As := []) ⟨hx, hb, hml, hown, hts⟩ hw (k_X11_mark l ((frm 32 (by decide)).trans (hB.1)) ((frm 33 (by decide)).trans (hB.2.1)) (hP.1) ((frm 34 (by decide)).trans (hB.2.2.1)) (hP.2.1)) (cv_X11_mark hts tw_1158 rfl rfl ⟨Nat.le_of_ble_eq_true rfl, Nat.le_of_ble_eq_true rfl⟩) (by decide) ((frm 32 (by decide)).trans (hB.1)) rfl rfl hl.1 rfl (by first | exact Nat.le_of_ble_eq_true rfl | decide) dL_1054 ⟨Nat.le_of_ble_eq_true rfl, Nat.le_of_ble_eq_true rfl⟩) hw hS (fun r2 c2 H locs p2 hw hS => ?_)
  have jc := jc_mark hA hB hP p1 p2
  refine lv_icmp_eq (tgt := 1630) hx hb dL_1057 (by decide) (fun _ => ?_) (fun q => absurd (jc.1) q)
  exact K _ _ _ (jc.2) hw hS
set_option maxHeartbeats 4000000 in
set_option maxRecDepth 100000 in
theorem lc_21 (hx : p.tables.exec = Jvm.exec) (hb : cd.code = code) (hml : cd.maxLocals = 4) (hown : s.vm.findClass RL = some m.cls) (hts : ∀ w ∈ WT, w.before #[Value.ref b] s = true) (hX : va_X b L xs s s.heap) (hbl : b < s.heap.size) (hbA : ¬ gA G b) (hi : i + 6 ≤ L) (hL : L ≤ 3072) (hJ : JJ G c) (hw : Hw G c s H) (hS : va_S (gA G) s.heap H locs) (hl : lv_has ls 4 [(0, .ref b), (1, .ref (gad G 0)), (2, .ref (gad G 32)), (3, .int (nI i))]) (K : ∀ (c1 : Nat → va_E) (H1 : Heap) (locs1 : List Loc), JJ G c1 → Hw G c1 s H1 → va_S (gA G) s.heap H1 locs1 → W p l e room_1 s m #[Value.ref b] below meth cd H1 locs1 45 2483 Q (F0 m 1630 ls [])) : W p l e room_1 s m #[Value.ref b] below meth cd H locs 45 2483 Q (F0 m 1062 ls []) := by
  obtain ⟨im, iz, z, n, n1, n2, rn, qn, tn, f, f1, f2, rf, rt, qf, qt, tf, ss, sz, sg, si, it, lw, cl, kn, kk, ks, kv, m0, g, hd, sd, fr, tto, tk, wo, hA, hB, hP⟩ := hJ
  refine lv_aload_n hx hb dL_1062 rfl (lv_at hl 1 rfl) ?_
  refine ld5 (k := 1) (kn := 1) hx hb hX hbl hbA hS hi hL hl rfl (by decide) (by decide) dL_1063 dL_1064 dL_1065 dL_1066 dL_1067 ?_
  refine ld5 (k := 2) (kn := 2) hx hb hX hbl hbA hS hi hL hl rfl (by decide) (by decide) dL_1068 dL_1069 dL_1070 dL_1071 dL_1072 ?_
  refine cSe (rV (As := [_, _]) ⟨hx, hb, hml, hown, hts⟩ hw (k_X10_touched l (hA.1) (hA.2.1) (hA.2.2.1) (hP.1) (hA.2.2.2.1) (hA.2.2.2.2.1) (hP.2.1)) (cv_X10_touched hts tw_492 rfl rfl ⟨Nat.le_of_ble_eq_true rfl, Nat.le_of_ble_eq_true rfl⟩) (by decide) (hA.1) rfl rfl hl.1 rfl (by first | exact Nat.le_of_ble_eq_true rfl | decide) dL_1073 ⟨Nat.le_of_ble_eq_true rfl, Nat.le_of_ble_eq_true rfl⟩) ?_
  refine lv_aload_n hx hb dL_1076 rfl (lv_at hl 2 rfl) ?_
  refine ld5 (k := 1) (kn := 1) hx hb hX hbl hbA hS hi hL hl rfl (by decide) (by decide) dL_1077 dL_1078 dL_1079 dL_1080 dL_1081 ?_
  refine ld5 (k := 2) (kn := 2) hx hb hX hbl hbA hS hi hL hl rfl (by decide) (by decide) dL_1082 dL_1083 dL_1084 dL_1085 dL_1086 ?_
  refine cQi (rV (As := [_, _]) ⟨hx, hb, hml, hown, hts⟩ hw (k_X11_touched l (hB.1) (hB.2.1) (hP.1) (hB.2.2.1) (hP.2.1) (hP.2.2.2.2.2.2.1) (hP.2.2.2.2.2.2.2.1)) (cv_X11_touched hts tw_1162 rfl rfl ⟨Nat.le_of_ble_eq_true rfl, Nat.le_of_ble_eq_true rfl⟩) (by decide) (hB.1) rfl rfl hl.1 rfl (by first | exact Nat.le_of_ble_eq_true rfl | decide) dL_1087 ⟨Nat.le_of_ble_eq_true rfl, Nat.le_of_ble_eq_true rfl⟩) hw hS (fun r2 c2 H locs p2 hw hS => ?_)
  have jc := jc_touched hA hB hP p2
  refine lv_icmp_eq (tgt := 1630) hx hb dL_1090 (by decide) (fun _ => ?_) (fun q => absurd (jc.1) q)
  exact K _ _ _ (jc.2) hw hS
set_option maxHeartbeats 4000000 in
set_option maxRecDepth 100000 in
theorem lc_22 (hx : p.tables.exec = Jvm.exec) (hb : cd.code = code) (hml : cd.maxLocals = 4) (hown : s.vm.findClass RL = some m.cls) (hts : ∀ w ∈ WT, w.before #[Value.ref b] s = true) (hX : va_X b L xs s s.heap) (hbl : b < s.heap.size) (hbA : ¬ gA G b) (hi : i + 6 ≤ L) (hL : L ≤ 3072) (hJ : JJ G c) (hw : Hw G c s H) (hS : va_S (gA G) s.heap H locs) (hl : lv_has ls 4 [(0, .ref b), (1, .ref (gad G 0)), (2, .ref (gad G 32)), (3, .int (nI i))]) (K : ∀ (c1 : Nat → va_E) (H1 : Heap) (locs1 : List Loc), JJ G c1 → Hw G c1 s H1 → va_S (gA G) s.heap H1 locs1 → W p l e room_1 s m #[Value.ref b] below meth cd H1 locs1 45 2483 Q (F0 m 1630 ls [])) : W p l e room_1 s m #[Value.ref b] below meth cd H locs 45 2483 Q (F0 m 1095 ls []) := by
  obtain ⟨im, iz, z, n, n1, n2, rn, qn, tn, f, f1, f2, rf, rt, qf, qt, tf, ss, sz, sg, si, it, lw, cl, kn, kk, ks, kv, m0, g, hd, sd, fr, tto, tk, wo, hA, hB, hP⟩ := hJ
  refine lv_aload_n hx hb dL_1095 rfl (lv_at hl 1 rfl) ?_
  refine ld5 (k := 1) (kn := 1) hx hb hX hbl hbA hS hi hL hl rfl (by decide) (by decide) dL_1096 dL_1097 dL_1098 dL_1099 dL_1100 ?_
  refine ld5 (k := 2) (kn := 2) hx hb hX hbl hbA hS hi hL hl rfl (by decide) (by decide) dL_1101 dL_1102 dL_1103 dL_1104 dL_1105 ?_
  refine ld5 (k := 3) (kn := 3) hx hb hX hbl hbA hS hi hL hl rfl (by decide) (by decide) dL_1106 dL_1107 dL_1108 dL_1109 dL_1110 ?_
  refine ld5 (k := 4) (kn := 4) hx hb hX hbl hbA hS hi hL hl rfl (by decide) (by decide) dL_1111 dL_1112 dL_1113 dL_1114 dL_1115 ?_
  refine cQi (rV (As := [_, _, _, _]) ⟨hx, hb, hml, hown, hts⟩ hw (k_X10_touches l (hA.1) (hA.2.1) (hA.2.2.1) (hP.1) (hA.2.2.2.1) (hA.2.2.2.2.1) (hP.2.1) (hA.2.2.2.2.2.2.2.2.2.2.2.2.2.2.2.2.1) (hA.2.2.2.2.2.2.2.2.2.2.2.2.2.2.2.2.2.1) (hP.2.2.2.2.2.2.2.2.2.2.2.2.2)) (cv_X10_touches hts tw_496 rfl rfl ⟨Nat.le_of_ble_eq_true rfl, Nat.le_of_ble_eq_true rfl⟩) (by decide) (hA.1) rfl rfl hl.1 rfl (by first | exact Nat.le_of_ble_eq_true rfl | decide) dL_1116 ⟨Nat.le_of_ble_eq_true rfl, Nat.le_of_ble_eq_true rfl⟩) hw hS (fun r1 c1 H locs p1 hw hS => ?_)
  have frm := jf_touches hA hB hP p1
  refine lv_aload_n hx hb dL_1119 rfl (lv_at hl 2 rfl) ?_
  refine ld5 (k := 1) (kn := 1) hx hb hX hbl hbA hS hi hL hl rfl (by decide) (by decide) dL_1120 dL_1121 dL_1122 dL_1123 dL_1124 ?_
  refine ld5 (k := 2) (kn := 2) hx hb hX hbl hbA hS hi hL hl rfl (by decide) (by decide) dL_1125 dL_1126 dL_1127 dL_1128 dL_1129 ?_
  refine ld5 (k := 3) (kn := 3) hx hb hX hbl hbA hS hi hL hl rfl (by decide) (by decide) dL_1130 dL_1131 dL_1132 dL_1133 dL_1134 ?_
  refine ld5 (k := 4) (kn := 4) hx hb hX hbl hbA hS hi hL hl rfl (by decide) (by decide) dL_1135 dL_1136 dL_1137 dL_1138 dL_1139 ?_
  refine cQi (rV (As := [_, _, _, _]) ⟨hx, hb, hml, hown, hts⟩ hw (k_X11_touches l ((frm 32 (by decide)).trans (hB.1)) ((frm 33 (by decide)).trans (hB.2.1)) (hP.1) ((frm 34 (by decide)).trans (hB.2.2.1)) (hP.2.1) (hP.2.2.2.2.2.2.1) (hP.2.2.2.2.2.2.2.1)) (cv_X11_touches hts tw_1170 rfl rfl ⟨Nat.le_of_ble_eq_true rfl, Nat.le_of_ble_eq_true rfl⟩) (by decide) ((frm 32 (by decide)).trans (hB.1)) rfl rfl hl.1 rfl (by first | exact Nat.le_of_ble_eq_true rfl | decide) dL_1140 ⟨Nat.le_of_ble_eq_true rfl, Nat.le_of_ble_eq_true rfl⟩) hw hS (fun r2 c2 H locs p2 hw hS => ?_)
  have jc := jc_touches hA hB hP p1 p2
  refine lv_icmp_eq (tgt := 1630) hx hb dL_1143 (by decide) (fun _ => ?_) (fun q => absurd (jc.1) q)
  exact K _ _ _ (jc.2) hw hS
set_option maxHeartbeats 4000000 in
set_option maxRecDepth 100000 in
theorem lc_23 (hx : p.tables.exec = Jvm.exec) (hb : cd.code = code) (hml : cd.maxLocals = 4) (hown : s.vm.findClass RL = some m.cls) (hts : ∀ w ∈ WT, w.before #[Value.ref b] s = true) (hX : va_X b L xs s s.heap) (hbl : b < s.heap.size) (hbA : ¬ gA G b) (hi : i + 6 ≤ L) (hL : L ≤ 3072) (hJ : JJ G c) (hw : Hw G c s H) (hS : va_S (gA G) s.heap H locs) (hl : lv_has ls 4 [(0, .ref b), (1, .ref (gad G 0)), (2, .ref (gad G 32)), (3, .int (nI i))]) (K : ∀ (c1 : Nat → va_E) (H1 : Heap) (locs1 : List Loc), JJ G c1 → Hw G c1 s H1 → va_S (gA G) s.heap H1 locs1 → W p l e room_1 s m #[Value.ref b] below meth cd H1 locs1 45 2483 Q (F0 m 1630 ls [])) : W p l e room_1 s m #[Value.ref b] below meth cd H locs 45 2483 Q (F0 m 1148 ls []) := by
  obtain ⟨im, iz, z, n, n1, n2, rn, qn, tn, f, f1, f2, rf, rt, qf, qt, tf, ss, sz, sg, si, it, lw, cl, kn, kk, ks, kv, m0, g, hd, sd, fr, tto, tk, wo, hA, hB, hP⟩ := hJ
  refine lv_aload_n hx hb dL_1148 rfl (lv_at hl 1 rfl) ?_
  refine ld5 (k := 1) (kn := 1) hx hb hX hbl hbA hS hi hL hl rfl (by decide) (by decide) dL_1149 dL_1150 dL_1151 dL_1152 dL_1153 ?_
  refine ld5 (k := 2) (kn := 2) hx hb hX hbl hbA hS hi hL hl rfl (by decide) (by decide) dL_1154 dL_1155 dL_1156 dL_1157 dL_1158 ?_
  refine cQi (rV (As := [_, _]) ⟨hx, hb, hml, hown, hts⟩ hw (k_X10_drawn l (hA.1) (hA.2.1) (hA.2.2.1) (hP.1) (hA.2.2.2.1) (hA.2.2.2.2.1) (hP.2.1) (hA.2.2.2.2.2.2.2.2.1)) (cv_X10_drawn hts tw_523 rfl rfl ⟨Nat.le_of_ble_eq_true rfl, Nat.le_of_ble_eq_true rfl⟩) (by decide) (hA.1) rfl rfl hl.1 rfl (by first | exact Nat.le_of_ble_eq_true rfl | decide) dL_1159 ⟨Nat.le_of_ble_eq_true rfl, Nat.le_of_ble_eq_true rfl⟩) hw hS (fun r1 c1 H locs p1 hw hS => ?_)
  have frm := jf_drawn hA hB hP p1
  refine lv_aload_n hx hb dL_1162 rfl (lv_at hl 2 rfl) ?_
  refine ld5 (k := 1) (kn := 1) hx hb hX hbl hbA hS hi hL hl rfl (by decide) (by decide) dL_1163 dL_1164 dL_1165 dL_1166 dL_1167 ?_
  refine ld5 (k := 2) (kn := 2) hx hb hX hbl hbA hS hi hL hl rfl (by decide) (by decide) dL_1168 dL_1169 dL_1170 dL_1171 dL_1172 ?_
  refine cQi (rV (As := [_, _]) ⟨hx, hb, hml, hown, hts⟩ hw (k_X11_drawn l ((frm 32 (by decide)).trans (hB.1)) ((frm 33 (by decide)).trans (hB.2.1)) (hP.1) ((frm 34 (by decide)).trans (hB.2.2.1)) (hP.2.1) (hP.2.2.2.2.2.2.1) (hP.2.2.2.2.2.2.2.1)) (cv_X11_drawn hts tw_1174 rfl rfl ⟨Nat.le_of_ble_eq_true rfl, Nat.le_of_ble_eq_true rfl⟩) (by decide) ((frm 32 (by decide)).trans (hB.1)) rfl rfl hl.1 rfl (by first | exact Nat.le_of_ble_eq_true rfl | decide) dL_1173 ⟨Nat.le_of_ble_eq_true rfl, Nat.le_of_ble_eq_true rfl⟩) hw hS (fun r2 c2 H locs p2 hw hS => ?_)
  have jc := jc_drawn hA hB hP p1 p2
  refine lv_icmp_eq (tgt := 1630) hx hb dL_1176 (by decide) (fun _ => ?_) (fun q => absurd (jc.1) q)
  exact K _ _ _ (jc.2) hw hS
set_option maxHeartbeats 4000000 in
set_option maxRecDepth 100000 in
theorem lc_24 (hx : p.tables.exec = Jvm.exec) (hb : cd.code = code) (hml : cd.maxLocals = 4) (hown : s.vm.findClass RL = some m.cls) (hts : ∀ w ∈ WT, w.before #[Value.ref b] s = true) (hX : va_X b L xs s s.heap) (hbl : b < s.heap.size) (hbA : ¬ gA G b) (hi : i + 6 ≤ L) (hL : L ≤ 3072) (hJ : JJ G c) (hw : Hw G c s H) (hS : va_S (gA G) s.heap H locs) (hl : lv_has ls 4 [(0, .ref b), (1, .ref (gad G 0)), (2, .ref (gad G 32)), (3, .int (nI i))]) (K : ∀ (c1 : Nat → va_E) (H1 : Heap) (locs1 : List Loc), JJ G c1 → Hw G c1 s H1 → va_S (gA G) s.heap H1 locs1 → W p l e room_1 s m #[Value.ref b] below meth cd H1 locs1 45 2483 Q (F0 m 1630 ls [])) : W p l e room_1 s m #[Value.ref b] below meth cd H locs 45 2483 Q (F0 m 1181 ls []) := by
  obtain ⟨im, iz, z, n, n1, n2, rn, qn, tn, f, f1, f2, rf, rt, qf, qt, tf, ss, sz, sg, si, it, lw, cl, kn, kk, ks, kv, m0, g, hd, sd, fr, tto, tk, wo, hA, hB, hP⟩ := hJ
  refine lv_aload_n hx hb dL_1181 rfl (lv_at hl 1 rfl) ?_
  refine ld5 (k := 1) (kn := 1) hx hb hX hbl hbA hS hi hL hl rfl (by decide) (by decide) dL_1182 dL_1183 dL_1184 dL_1185 dL_1186 ?_
  refine cQi (rV (As := [_]) ⟨hx, hb, hml, hown, hts⟩ hw (k_X10_file l (hA.1) (hA.2.1) (hA.2.2.1) (hP.1) (hA.2.2.2.2.2.1) (hA.2.2.2.2.2.2.1) (hA.2.2.2.2.2.2.2.1) (hP.2.2.2.1)) (cv_X10_file hts tw_527 rfl rfl ⟨Nat.le_of_ble_eq_true rfl, Nat.le_of_ble_eq_true rfl⟩) (by decide) (hA.1) rfl rfl hl.1 rfl (by first | exact Nat.le_of_ble_eq_true rfl | decide) dL_1187 ⟨Nat.le_of_ble_eq_true rfl, Nat.le_of_ble_eq_true rfl⟩) hw hS (fun r1 c1 H locs p1 hw hS => ?_)
  have frm := jf_file hA hB hP p1
  refine lv_aload_n hx hb dL_1190 rfl (lv_at hl 2 rfl) ?_
  refine ld5 (k := 1) (kn := 1) hx hb hX hbl hbA hS hi hL hl rfl (by decide) (by decide) dL_1191 dL_1192 dL_1193 dL_1194 dL_1195 ?_
  refine cQi (rV (As := [_]) ⟨hx, hb, hml, hown, hts⟩ hw (k_X11_file l ((frm 32 (by decide)).trans (hB.1)) ((frm 33 (by decide)).trans (hB.2.1)) (hP.1) ((frm 36 (by decide)).trans (hB.2.2.2.2.1)) ((frm 37 (by decide)).trans (hB.2.2.2.2.2.1)) (hP.2.2.2.1)) (cv_X11_file hts tw_1178 rfl rfl ⟨Nat.le_of_ble_eq_true rfl, Nat.le_of_ble_eq_true rfl⟩) (by decide) ((frm 32 (by decide)).trans (hB.1)) rfl rfl hl.1 rfl (by first | exact Nat.le_of_ble_eq_true rfl | decide) dL_1196 ⟨Nat.le_of_ble_eq_true rfl, Nat.le_of_ble_eq_true rfl⟩) hw hS (fun r2 c2 H locs p2 hw hS => ?_)
  have jc := jc_file hA hB hP p1 p2
  refine lv_icmp_eq (tgt := 1630) hx hb dL_1199 (by decide) (fun _ => ?_) (fun q => absurd (jc.1) q)
  exact K _ _ _ (jc.2) hw hS
set_option maxHeartbeats 4000000 in
set_option maxRecDepth 100000 in
theorem lc_25 (hx : p.tables.exec = Jvm.exec) (hb : cd.code = code) (hml : cd.maxLocals = 4) (hown : s.vm.findClass RL = some m.cls) (hts : ∀ w ∈ WT, w.before #[Value.ref b] s = true) (hX : va_X b L xs s s.heap) (hbl : b < s.heap.size) (hbA : ¬ gA G b) (hi : i + 6 ≤ L) (hL : L ≤ 3072) (hJ : JJ G c) (hw : Hw G c s H) (hS : va_S (gA G) s.heap H locs) (hl : lv_has ls 4 [(0, .ref b), (1, .ref (gad G 0)), (2, .ref (gad G 32)), (3, .int (nI i))]) (K : ∀ (c1 : Nat → va_E) (H1 : Heap) (locs1 : List Loc), JJ G c1 → Hw G c1 s H1 → va_S (gA G) s.heap H1 locs1 → W p l e room_1 s m #[Value.ref b] below meth cd H1 locs1 45 2483 Q (F0 m 1630 ls [])) : W p l e room_1 s m #[Value.ref b] below meth cd H locs 45 2483 Q (F0 m 1204 ls []) := by
  obtain ⟨im, iz, z, n, n1, n2, rn, qn, tn, f, f1, f2, rf, rt, qf, qt, tf, ss, sz, sg, si, it, lw, cl, kn, kk, ks, kv, m0, g, hd, sd, fr, tto, tk, wo, hA, hB, hP⟩ := hJ
  refine lv_aload_n hx hb dL_1204 rfl (lv_at hl 1 rfl) ?_
  refine ld5 (k := 1) (kn := 1) hx hb hX hbl hbA hS hi hL hl rfl (by decide) (by decide) dL_1205 dL_1206 dL_1207 dL_1208 dL_1209 ?_
  refine ld5 (k := 2) (kn := 2) hx hb hX hbl hbA hS hi hL hl rfl (by decide) (by decide) dL_1210 dL_1211 dL_1212 dL_1213 dL_1214 ?_
  refine cSi (rV (As := [_, _]) ⟨hx, hb, hml, hown, hts⟩ hw (k_X10_filed l (hA.1) (hA.2.1) (hA.2.2.1) (hP.1) (hA.2.2.2.2.2.1) (hA.2.2.2.2.2.2.1) (hA.2.2.2.2.2.2.2.1) (hP.2.2.2.1)) (cv_X10_filed hts tw_544 rfl rfl ⟨Nat.le_of_ble_eq_true rfl, Nat.le_of_ble_eq_true rfl⟩) (by decide) (hA.1) rfl rfl hl.1 rfl (by first | exact Nat.le_of_ble_eq_true rfl | decide) dL_1215 ⟨Nat.le_of_ble_eq_true rfl, Nat.le_of_ble_eq_true rfl⟩) (fun r1 p1 => ?_)
  refine lv_aload_n hx hb dL_1218 rfl (lv_at hl 2 rfl) ?_
  refine ld5 (k := 1) (kn := 1) hx hb hX hbl hbA hS hi hL hl rfl (by decide) (by decide) dL_1219 dL_1220 dL_1221 dL_1222 dL_1223 ?_
  refine ld5 (k := 2) (kn := 2) hx hb hX hbl hbA hS hi hL hl rfl (by decide) (by decide) dL_1224 dL_1225 dL_1226 dL_1227 dL_1228 ?_
  refine cSi (rV (As := [_, _]) ⟨hx, hb, hml, hown, hts⟩ hw (k_X11_filed l (hB.1) (hB.2.1) (hP.1) (hB.2.2.2.2.1) (hB.2.2.2.2.2.1) (hP.2.2.2.1)) (cv_X11_filed hts tw_1186 rfl rfl ⟨Nat.le_of_ble_eq_true rfl, Nat.le_of_ble_eq_true rfl⟩) (by decide) (hB.1) rfl rfl hl.1 rfl (by first | exact Nat.le_of_ble_eq_true rfl | decide) dL_1229 ⟨Nat.le_of_ble_eq_true rfl, Nat.le_of_ble_eq_true rfl⟩) (fun r2 p2 => ?_)
  have jc : _ := jc_filed hA hB hP p1 p2
  refine lv_icmp_eq (tgt := 1630) hx hb dL_1232 (by decide) (fun _ => ?_) (fun q => absurd (jc) q)
  exact K _ _ _ (⟨im, iz, z, n, n1, n2, rn, qn, tn, f, f1, f2, rf, rt, qf, qt, tf, ss, sz, sg, si, it, lw, cl, kn, kk, ks, kv, m0, g, hd, sd, fr, tto, tk, wo, hA, hB, hP⟩) hw hS
set_option maxHeartbeats 4000000 in
set_option maxRecDepth 100000 in
theorem lc_26 (hx : p.tables.exec = Jvm.exec) (hb : cd.code = code) (hml : cd.maxLocals = 4) (hown : s.vm.findClass RL = some m.cls) (hts : ∀ w ∈ WT, w.before #[Value.ref b] s = true) (hX : va_X b L xs s s.heap) (hbl : b < s.heap.size) (hbA : ¬ gA G b) (hi : i + 6 ≤ L) (hL : L ≤ 3072) (hJ : JJ G c) (hw : Hw G c s H) (hS : va_S (gA G) s.heap H locs) (hl : lv_has ls 4 [(0, .ref b), (1, .ref (gad G 0)), (2, .ref (gad G 32)), (3, .int (nI i))]) (K : ∀ (c1 : Nat → va_E) (H1 : Heap) (locs1 : List Loc), JJ G c1 → Hw G c1 s H1 → va_S (gA G) s.heap H1 locs1 → W p l e room_1 s m #[Value.ref b] below meth cd H1 locs1 45 2483 Q (F0 m 1630 ls [])) : W p l e room_1 s m #[Value.ref b] below meth cd H locs 45 2483 Q (F0 m 1237 ls []) := by
  obtain ⟨im, iz, z, n, n1, n2, rn, qn, tn, f, f1, f2, rf, rt, qf, qt, tf, ss, sz, sg, si, it, lw, cl, kn, kk, ks, kv, m0, g, hd, sd, fr, tto, tk, wo, hA, hB, hP⟩ := hJ
  refine lv_aload_n hx hb dL_1237 rfl (lv_at hl 1 rfl) ?_
  refine cSe (rV (As := []) ⟨hx, hb, hml, hown, hts⟩ hw (k_X10_alike l (hA.1) (hA.2.1) (hA.2.2.1) (hP.1)) (cv_X10_alike hts tw_553 rfl rfl ⟨Nat.le_of_ble_eq_true rfl, Nat.le_of_ble_eq_true rfl⟩) (by decide) (hA.1) rfl rfl hl.1 rfl (by first | exact Nat.le_of_ble_eq_true rfl | decide) dL_1238 ⟨Nat.le_of_ble_eq_true rfl, Nat.le_of_ble_eq_true rfl⟩) ?_
  refine lv_aload_n hx hb dL_1241 rfl (lv_at hl 2 rfl) ?_
  refine cSe (rV (As := []) ⟨hx, hb, hml, hown, hts⟩ hw (k_X11_alike l (hB.1) (hB.2.1) (hP.1)) (cv_X11_alike hts tw_1190 rfl rfl ⟨Nat.le_of_ble_eq_true rfl, Nat.le_of_ble_eq_true rfl⟩) (by decide) (hB.1) rfl rfl hl.1 rfl (by first | exact Nat.le_of_ble_eq_true rfl | decide) dL_1242 ⟨Nat.le_of_ble_eq_true rfl, Nat.le_of_ble_eq_true rfl⟩) ?_
  have jc : True := trivial
  refine lv_icmp_eq (tgt := 1630) hx hb dL_1245 (by decide) (fun _ => ?_) (fun q => absurd (rfl) q)
  exact K _ _ _ (⟨im, iz, z, n, n1, n2, rn, qn, tn, f, f1, f2, rf, rt, qf, qt, tf, ss, sz, sg, si, it, lw, cl, kn, kk, ks, kv, m0, g, hd, sd, fr, tto, tk, wo, hA, hB, hP⟩) hw hS
set_option maxHeartbeats 4000000 in
set_option maxRecDepth 100000 in
theorem lc_27 (hx : p.tables.exec = Jvm.exec) (hb : cd.code = code) (hml : cd.maxLocals = 4) (hown : s.vm.findClass RL = some m.cls) (hts : ∀ w ∈ WT, w.before #[Value.ref b] s = true) (hX : va_X b L xs s s.heap) (hbl : b < s.heap.size) (hbA : ¬ gA G b) (hi : i + 6 ≤ L) (hL : L ≤ 3072) (hJ : JJ G c) (hw : Hw G c s H) (hS : va_S (gA G) s.heap H locs) (hl : lv_has ls 4 [(0, .ref b), (1, .ref (gad G 0)), (2, .ref (gad G 32)), (3, .int (nI i))]) (K : ∀ (c1 : Nat → va_E) (H1 : Heap) (locs1 : List Loc), JJ G c1 → Hw G c1 s H1 → va_S (gA G) s.heap H1 locs1 → W p l e room_1 s m #[Value.ref b] below meth cd H1 locs1 45 2483 Q (F0 m 1630 ls [])) : W p l e room_1 s m #[Value.ref b] below meth cd H locs 45 2483 Q (F0 m 1250 ls []) := by
  obtain ⟨im, iz, z, n, n1, n2, rn, qn, tn, f, f1, f2, rf, rt, qf, qt, tf, ss, sz, sg, si, it, lw, cl, kn, kk, ks, kv, m0, g, hd, sd, fr, tto, tk, wo, hA, hB, hP⟩ := hJ
  refine lv_aload_n hx hb dL_1250 rfl (lv_at hl 1 rfl) ?_
  refine cQi (rV (As := []) ⟨hx, hb, hml, hown, hts⟩ hw (k_X10_forget l (hA.1) (hA.2.2.2.2.2.1) (hA.2.2.2.2.2.2.1) (hA.2.2.2.2.2.2.2.1) (hP.2.2.2.1)) (cv_X10_forget hts tw_565 rfl rfl ⟨Nat.le_of_ble_eq_true rfl, Nat.le_of_ble_eq_true rfl⟩) (by decide) (hA.1) rfl rfl hl.1 rfl (by first | exact Nat.le_of_ble_eq_true rfl | decide) dL_1251 ⟨Nat.le_of_ble_eq_true rfl, Nat.le_of_ble_eq_true rfl⟩) hw hS (fun r1 c1 H locs p1 hw hS => ?_)
  have frm := jf_forget hA hB hP p1
  refine lv_aload_n hx hb dL_1254 rfl (lv_at hl 2 rfl) ?_
  refine cQi (rV (As := []) ⟨hx, hb, hml, hown, hts⟩ hw (k_X11_forget l ((frm 32 (by decide)).trans (hB.1)) ((frm 36 (by decide)).trans (hB.2.2.2.2.1)) ((frm 37 (by decide)).trans (hB.2.2.2.2.2.1)) (hP.2.2.2.1)) (cv_X11_forget hts tw_1194 rfl rfl ⟨Nat.le_of_ble_eq_true rfl, Nat.le_of_ble_eq_true rfl⟩) (by decide) ((frm 32 (by decide)).trans (hB.1)) rfl rfl hl.1 rfl (by first | exact Nat.le_of_ble_eq_true rfl | decide) dL_1255 ⟨Nat.le_of_ble_eq_true rfl, Nat.le_of_ble_eq_true rfl⟩) hw hS (fun r2 c2 H locs p2 hw hS => ?_)
  have jc := jc_forget hA hB hP p1 p2
  refine lv_icmp_eq (tgt := 1630) hx hb dL_1258 (by decide) (fun _ => ?_) (fun q => absurd (jc.1) q)
  exact K _ _ _ (jc.2) hw hS
end LC
