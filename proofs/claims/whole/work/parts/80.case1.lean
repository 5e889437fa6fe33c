/-! ===== the law: its cases, on ===== -/
/-! area -/
set_option maxRecDepth 100000 in
set_option maxHeartbeats 4000000 in
theorem lc_area (G : GT) {D : WD} {S : SS} {A : Nat → Nat} {h : Hp} {m o i : Nat} {o5 o6 o7 o8 : Option Value} {b : Nat × Nat} (J : JI G h D m A S o) (hL : scL G ≤ 3584) (hi : i + 6 < scL G) (hb : 60 ≤ b.1 ∧ 1600 ≤ b.2)
    (K : ∀ D' T h' o5 o6 b', JI G h' D' m A T o → b.1 ≤ b'.1 + 60 → b.2 ≤ b'.2 + 1600 → WpL G 1743 [some (.ref (scB G)), some (.ref (D' 0 0)), some (.ref m), some (.ref o), some (.int (i32 i)), o5, o6, o7, o8] [] h' b') :
    WpL G 710 [some (.ref (scB G)), some (.ref (D 0 0)), some (.ref m), some (.ref o), some (.int (i32 i)), o5, o6, o7, o8] [] h b := by
  have hW := J.1
  have hw := J.2.1
  have hI := J.2.2.1
  have ko := J.2.2.2.2.2.2.1
  have lo := J.2.2.2.2.2.2.2
  refine WpL.al DL_law_710 rfl ?_
  refine WpL.sa (k := 1) hL (by omega) rfl rfl rfl DL_law_711 DL_law_712 DL_law_714 DL_law_715 DL_law_716 ?_
  refine WpL.sa (k := 2) hL (by omega) rfl rfl rfl DL_law_717 DL_law_718 DL_law_720 DL_law_721 DL_law_722 ?_
  refine WpL.al DL_law_723 rfl ?_
  refine WpL.cS (ce := ce_L_area G D S) (As := [.ref (D 0 0), .int (scX G (i + 1)), .int (scX G (i + 2)), .ref o]) (rest := []) DL_law_724 (env_cons (ceS (by decide +kernel) ⟨by decide, by decide, by decide +kernel⟩ (by decide) (ok_L_area G G D S hW)) envL) rfl (fun _ => rfl) (Nat.le_of_ble_eq_true rfl) (by show 4 ≤ b.1; omega) (by show 24 ≤ b.2; omega) (Nat.le_of_ble_eq_true rfl) ?_
  refine And.intro hI (And.intro hw (And.intro rfl (And.intro ko (And.intro lo (fun kk vv T hO h1 D' e f w hI' hj => ?_)))))
  obtain ⟨hk, hWF, hWW⟩ := wf_area hW hw hO
  obtain ⟨hM1, hC1⟩ := J.md f
  show WpL G 727 [some (.ref (scB G)), some (.ref (D 0 0)), some (.ref m), some (.ref o), some (.int (i32 i)), o5, o6, o7, o8] [.int (i32 kk)] h1 (b.1 - 4, b.2 - 24)
  refine WpL.is DL_law_727 (by show 5 < 9; omega) ?_
  show WpL G 729 [some (.ref (scB G)), some (.ref (D 0 0)), some (.ref m), some (.ref o), some (.int (i32 i)), some (.int (i32 kk)), o6, o7, o8] [] h1 (b.1 - 4, b.2 - 24)
  refine WpL.al DL_law_729 rfl ?_
  refine WpL.sa (k := 1) hL (by omega) rfl rfl rfl DL_law_730 DL_law_731 DL_law_733 DL_law_734 DL_law_735 ?_
  refine WpL.sa (k := 2) hL (by omega) rfl rfl rfl DL_law_736 DL_law_737 DL_law_739 DL_law_740 DL_law_741 ?_
  refine WpL.cV (x := 6) (ce := ce_X5_area A S) (As := [.int (scX G (i + 1)), .int (scX G (i + 2))]) (rest := []) DL_law_742 (env_cons (ceV (by decide +kernel) ⟨by decide, by decide, by decide +kernel⟩ (by decide) rfl (ok_X5_area G A S hW)) envL) rfl (fun _ => rfl) hM1.1.1 (by omega) rfl (Nat.le_of_ble_eq_true rfl) (by show 0 ≤ b.1 - 4; omega) (by show 0 ≤ b.2 - 24; omega) (Nat.le_of_ble_eq_true rfl) ?_
  refine m_area (QX := PXL) hW hw hM1 hC1 hO (fun h2 f2 e2 hM2 hC2 w2 hw2 => ?_)
  show WpL G 745 [some (.ref (scB G)), some (.ref (D 0 0)), some (.ref m), some (.ref o), some (.int (i32 i)), some (.int (i32 kk)), o6, o7, o8] [.int w2] h2 (b.1 - 4 - 0, b.2 - 24 - 0)
  refine Wp.emp (fun hE => ?_)
  have J2 := J.nx f w hI' hE f2 hM2 hC2 hWF hWW
  rw [← e]
  exact tl_law (q := 745) envT DL_law_745 DL_law_747 DL_law_748 DL_law_751 DL_law_753 DL_law_758 DL_law_760 DL_law_763 DL_law_764 DL_law_765 DL_law_766 DL_law_768 DL_law_769 DL_law_770 DL_law_775 J2 hk e2 hw2 (fun z => (J.ja f f2).trans (hj z)) (K D' T h2 _ _ _ J2 (by show b.1 ≤ b.1 - 4 - 0 + 60; omega) (by show b.2 ≤ b.2 - 24 - 0 + 1600; omega))
/-! inHour -/
set_option maxRecDepth 100000 in
set_option maxHeartbeats 4000000 in
theorem lc_inHour (G : GT) {D : WD} {S : SS} {A : Nat → Nat} {h : Hp} {m o i : Nat} {o5 o6 o7 o8 : Option Value} {b : Nat × Nat} (J : JI G h D m A S o) (hL : scL G ≤ 3584) (hi : i + 6 < scL G) (hb : 60 ≤ b.1 ∧ 1600 ≤ b.2)
    (K : ∀ D' T h' o5 o6 b', JI G h' D' m A T o → b.1 ≤ b'.1 + 60 → b.2 ≤ b'.2 + 1600 → WpL G 1743 [some (.ref (scB G)), some (.ref (D' 0 0)), some (.ref m), some (.ref o), some (.int (i32 i)), o5, o6, o7, o8] [] h' b') :
    WpL G 778 [some (.ref (scB G)), some (.ref (D 0 0)), some (.ref m), some (.ref o), some (.int (i32 i)), o5, o6, o7, o8] [] h b := by
  have hW := J.1
  have hw := J.2.1
  have hI := J.2.2.1
  have ko := J.2.2.2.2.2.2.1
  have lo := J.2.2.2.2.2.2.2
  refine WpL.al DL_law_778 rfl ?_
  refine WpL.sa (k := 1) hL (by omega) rfl rfl rfl DL_law_779 DL_law_780 DL_law_782 DL_law_783 DL_law_784 ?_
  refine WpL.sa (k := 2) hL (by omega) rfl rfl rfl DL_law_785 DL_law_786 DL_law_788 DL_law_789 DL_law_790 ?_
  refine WpL.al DL_law_791 rfl ?_
  refine WpL.cS (ce := ce_L_inHour G D S) (As := [.ref (D 0 0), .int (scX G (i + 1)), .int (scX G (i + 2)), .ref o]) (rest := []) DL_law_792 (env_cons (ceS (by decide +kernel) ⟨by decide, by decide, by decide +kernel⟩ (by decide) (ok_L_inHour G G D S hW)) envL) rfl (fun _ => rfl) (Nat.le_of_ble_eq_true rfl) (by show 4 ≤ b.1; omega) (by show 24 ≤ b.2; omega) (Nat.le_of_ble_eq_true rfl) ?_
  refine And.intro hI (And.intro hw (And.intro rfl (And.intro ko (And.intro lo (fun kk vv T hO h1 D' e f w hI' hj => ?_)))))
  obtain ⟨hk, hWF, hWW⟩ := wf_inHour hW hw hO
  obtain ⟨hM1, hC1⟩ := J.md f
  show WpL G 795 [some (.ref (scB G)), some (.ref (D 0 0)), some (.ref m), some (.ref o), some (.int (i32 i)), o5, o6, o7, o8] [.int (i32 kk)] h1 (b.1 - 4, b.2 - 24)
  refine WpL.is DL_law_795 (by show 5 < 9; omega) ?_
  show WpL G 797 [some (.ref (scB G)), some (.ref (D 0 0)), some (.ref m), some (.ref o), some (.int (i32 i)), some (.int (i32 kk)), o6, o7, o8] [] h1 (b.1 - 4, b.2 - 24)
  refine WpL.al DL_law_797 rfl ?_
  refine WpL.sa (k := 1) hL (by omega) rfl rfl rfl DL_law_798 DL_law_799 DL_law_801 DL_law_802 DL_law_803 ?_
  refine WpL.sa (k := 2) hL (by omega) rfl rfl rfl DL_law_804 DL_law_805 DL_law_807 DL_law_808 DL_law_809 ?_
  refine WpL.cV (x := 6) (ce := ce_X5_inHour A S) (As := [.int (scX G (i + 1)), .int (scX G (i + 2))]) (rest := []) DL_law_810 (env_cons (ceV (by decide +kernel) ⟨by decide, by decide, by decide +kernel⟩ (by decide) rfl (ok_X5_inHour G A S hW)) envL) rfl (fun _ => rfl) hM1.1.1 (by omega) rfl (Nat.le_of_ble_eq_true rfl) (by show 0 ≤ b.1 - 4; omega) (by show 0 ≤ b.2 - 24; omega) (Nat.le_of_ble_eq_true rfl) ?_
  refine m_inHour (QX := PXL) hW hw hM1 hC1 hO (fun h2 f2 e2 hM2 hC2 w2 hw2 => ?_)
  show WpL G 813 [some (.ref (scB G)), some (.ref (D 0 0)), some (.ref m), some (.ref o), some (.int (i32 i)), some (.int (i32 kk)), o6, o7, o8] [.int w2] h2 (b.1 - 4 - 0, b.2 - 24 - 0)
  refine Wp.emp (fun hE => ?_)
  have J2 := J.nx f w hI' hE f2 hM2 hC2 hWF hWW
  rw [← e]
  exact tl_law (q := 813) envT DL_law_813 DL_law_815 DL_law_816 DL_law_819 DL_law_821 DL_law_826 DL_law_828 DL_law_831 DL_law_832 DL_law_833 DL_law_834 DL_law_836 DL_law_837 DL_law_838 DL_law_843 J2 hk e2 hw2 (fun z => (J.ja f f2).trans (hj z)) (K D' T h2 _ _ _ J2 (by show b.1 ≤ b.1 - 4 - 0 + 60; omega) (by show b.2 ≤ b.2 - 24 - 0 + 1600; omega))
/-! let -/
set_option maxRecDepth 100000 in
set_option maxHeartbeats 4000000 in
theorem lc_let (G : GT) {D : WD} {S : SS} {A : Nat → Nat} {h : Hp} {m o i : Nat} {o5 o6 o7 o8 : Option Value} {b : Nat × Nat} (J : JI G h D m A S o) (hL : scL G ≤ 3584) (hi : i + 6 < scL G) (hb : 60 ≤ b.1 ∧ 1600 ≤ b.2)
    (K : ∀ D' T h' o5 o6 b', JI G h' D' m A T o → b.1 ≤ b'.1 + 60 → b.2 ≤ b'.2 + 1600 → WpL G 1743 [some (.ref (scB G)), some (.ref (D' 0 0)), some (.ref m), some (.ref o), some (.int (i32 i)), o5, o6, o7, o8] [] h' b') :
    WpL G 846 [some (.ref (scB G)), some (.ref (D 0 0)), some (.ref m), some (.ref o), some (.int (i32 i)), o5, o6, o7, o8] [] h b := by
  have hW := J.1
  have hw := J.2.1
  have hI := J.2.2.1
  have ko := J.2.2.2.2.2.2.1
  have lo := J.2.2.2.2.2.2.2
  refine WpL.al DL_law_846 rfl ?_
  refine WpL.sa (k := 1) hL (by omega) rfl rfl rfl DL_law_847 DL_law_848 DL_law_850 DL_law_851 DL_law_852 ?_
  refine WpL.sa (k := 2) hL (by omega) rfl rfl rfl DL_law_853 DL_law_854 DL_law_856 DL_law_857 DL_law_858 ?_
  refine WpL.sa (k := 3) hL (by omega) rfl rfl rfl DL_law_859 DL_law_860 DL_law_862 DL_law_863 DL_law_864 ?_
  refine WpL.sa (k := 4) hL (by omega) rfl rfl rfl DL_law_865 DL_law_866 DL_law_868 DL_law_869 DL_law_870 ?_
  refine WpL.sa (k := 5) hL (by omega) rfl rfl rfl DL_law_871 DL_law_872 DL_law_874 DL_law_875 DL_law_876 ?_
  refine WpL.sb (k := 6) hL (by omega) rfl rfl rfl DL_law_877 DL_law_878 DL_law_880 DL_law_882 DL_law_883 ?_
  refine WpL.al DL_law_884 rfl ?_
  refine WpL.cS (ce := ce_L_let G D S) (As := [.ref (D 0 0), .int (scX G (i + 1)), .int (scX G (i + 2)), .int (scX G (i + 3)), .int (scX G (i + 4)), .int (scX G (i + 5)), .int (scX G (i + 6)), .ref o]) (rest := []) DL_law_885 (env_cons (ceS (by decide +kernel) ⟨by decide, by decide, by decide +kernel⟩ (by decide) (ok_L_let G G D S hW)) envL) rfl (fun _ => rfl) (Nat.le_of_ble_eq_true rfl) (by show 9 ≤ b.1; omega) (by show 112 ≤ b.2; omega) (Nat.le_of_ble_eq_true rfl) ?_
  refine And.intro hI (And.intro hw (And.intro rfl (And.intro ko (And.intro lo (fun kk vv T hO h1 D' e f w hI' hj => ?_)))))
  obtain ⟨hk, hWF, hWW⟩ := wf_let hW hw hO
  obtain ⟨hM1, hC1⟩ := J.md f
  show WpL G 888 [some (.ref (scB G)), some (.ref (D 0 0)), some (.ref m), some (.ref o), some (.int (i32 i)), o5, o6, o7, o8] [.int (i32 kk)] h1 (b.1 - 9, b.2 - 112)
  refine WpL.is DL_law_888 (by show 5 < 9; omega) ?_
  show WpL G 890 [some (.ref (scB G)), some (.ref (D 0 0)), some (.ref m), some (.ref o), some (.int (i32 i)), some (.int (i32 kk)), o6, o7, o8] [] h1 (b.1 - 9, b.2 - 112)
  refine WpL.al DL_law_890 rfl ?_
  refine WpL.sa (k := 1) hL (by omega) rfl rfl rfl DL_law_891 DL_law_892 DL_law_894 DL_law_895 DL_law_896 ?_
  refine WpL.sa (k := 2) hL (by omega) rfl rfl rfl DL_law_897 DL_law_898 DL_law_900 DL_law_901 DL_law_902 ?_
  refine WpL.sa (k := 3) hL (by omega) rfl rfl rfl DL_law_903 DL_law_904 DL_law_906 DL_law_907 DL_law_908 ?_
  refine WpL.sa (k := 4) hL (by omega) rfl rfl rfl DL_law_909 DL_law_910 DL_law_912 DL_law_913 DL_law_914 ?_
  refine WpL.sa (k := 5) hL (by omega) rfl rfl rfl DL_law_915 DL_law_916 DL_law_918 DL_law_919 DL_law_920 ?_
  refine WpL.sb (k := 6) hL (by omega) rfl rfl rfl DL_law_921 DL_law_922 DL_law_924 DL_law_926 DL_law_927 ?_
  refine WpL.cV (x := 6) (ce := ce_X5_let A S) (As := [.int (scX G (i + 1)), .int (scX G (i + 2)), .int (scX G (i + 3)), .int (scX G (i + 4)), .int (scX G (i + 5)), .int (scX G (i + 6))]) (rest := []) DL_law_928 (env_cons (ceV (by decide +kernel) ⟨by decide, by decide, by decide +kernel⟩ (by decide) rfl (ok_X5_let G A S hW)) envL) rfl (fun _ => rfl) hM1.1.1 (by omega) rfl (Nat.le_of_ble_eq_true rfl) (by show 1 ≤ b.1 - 9; omega) (by show 9 ≤ b.2 - 112; omega) (Nat.le_of_ble_eq_true rfl) ?_
  refine m_let (QX := PXL) hW hw hM1 hC1 hO (fun h2 f2 e2 hM2 hC2 w2 hw2 => ?_)
  show WpL G 931 [some (.ref (scB G)), some (.ref (D 0 0)), some (.ref m), some (.ref o), some (.int (i32 i)), some (.int (i32 kk)), o6, o7, o8] [.int w2] h2 (b.1 - 9 - 1, b.2 - 112 - 9)
  refine Wp.emp (fun hE => ?_)
  have J2 := J.nx f w hI' hE f2 hM2 hC2 hWF hWW
  rw [← e]
  exact tl_law (q := 931) envT DL_law_931 DL_law_933 DL_law_934 DL_law_937 DL_law_939 DL_law_944 DL_law_946 DL_law_949 DL_law_950 DL_law_951 DL_law_952 DL_law_954 DL_law_955 DL_law_956 DL_law_961 J2 hk e2 hw2 (fun z => (J.ja f f2).trans (hj z)) (K D' T h2 _ _ _ J2 (by show b.1 ≤ b.1 - 9 - 1 + 60; omega) (by show b.2 ≤ b.2 - 112 - 9 + 1600; omega))
/-! end -/
set_option maxRecDepth 100000 in
set_option maxHeartbeats 4000000 in
theorem lc_end (G : GT) {D : WD} {S : SS} {A : Nat → Nat} {h : Hp} {m o i : Nat} {o5 o6 o7 o8 : Option Value} {b : Nat × Nat} (J : JI G h D m A S o) (hL : scL G ≤ 3584) (hi : i + 6 < scL G) (hb : 60 ≤ b.1 ∧ 1600 ≤ b.2)
    (K : ∀ D' T h' o5 o6 b', JI G h' D' m A T o → b.1 ≤ b'.1 + 60 → b.2 ≤ b'.2 + 1600 → WpL G 1743 [some (.ref (scB G)), some (.ref (D' 0 0)), some (.ref m), some (.ref o), some (.int (i32 i)), o5, o6, o7, o8] [] h' b') :
    WpL G 964 [some (.ref (scB G)), some (.ref (D 0 0)), some (.ref m), some (.ref o), some (.int (i32 i)), o5, o6, o7, o8] [] h b := by
  have hW := J.1
  have hw := J.2.1
  have hI := J.2.2.1
  have ko := J.2.2.2.2.2.2.1
  have lo := J.2.2.2.2.2.2.2
  refine WpL.al DL_law_964 rfl ?_
  refine WpL.sa (k := 1) hL (by omega) rfl rfl rfl DL_law_965 DL_law_966 DL_law_968 DL_law_969 DL_law_970 ?_
  refine WpL.al DL_law_971 rfl ?_
  refine WpL.cS (ce := ce_L_end G D S) (As := [.ref (D 0 0), .int (scX G (i + 1)), .ref o]) (rest := []) DL_law_972 (env_cons (ceS (by decide +kernel) ⟨by decide, by decide, by decide +kernel⟩ (by decide) (ok_L_end G G D S hW)) envL) rfl (fun _ => rfl) (Nat.le_of_ble_eq_true rfl) (by show 8 ≤ b.1; omega) (by show 48 ≤ b.2; omega) (Nat.le_of_ble_eq_true rfl) ?_
  refine And.intro hI (And.intro hw (And.intro rfl (And.intro ko (And.intro lo (fun kk vv T hO h1 D' e f w hI' hj => ?_)))))
  obtain ⟨hk, hWF, hWW⟩ := wf_end hW hw hO
  obtain ⟨hM1, hC1⟩ := J.md f
  show WpL G 975 [some (.ref (scB G)), some (.ref (D 0 0)), some (.ref m), some (.ref o), some (.int (i32 i)), o5, o6, o7, o8] [.int (i32 kk)] h1 (b.1 - 8, b.2 - 48)
  refine WpL.is DL_law_975 (by show 5 < 9; omega) ?_
  show WpL G 977 [some (.ref (scB G)), some (.ref (D 0 0)), some (.ref m), some (.ref o), some (.int (i32 i)), some (.int (i32 kk)), o6, o7, o8] [] h1 (b.1 - 8, b.2 - 48)
  refine WpL.al DL_law_977 rfl ?_
  refine WpL.sa (k := 1) hL (by omega) rfl rfl rfl DL_law_978 DL_law_979 DL_law_981 DL_law_982 DL_law_983 ?_
  refine WpL.cV (x := 6) (ce := ce_X5_end A S) (As := [.int (scX G (i + 1))]) (rest := []) DL_law_984 (env_cons (ceV (by decide +kernel) ⟨by decide, by decide, by decide +kernel⟩ (by decide) rfl (ok_X5_end G A S hW)) envL) rfl (fun _ => rfl) hM1.1.1 (by omega) rfl (Nat.le_of_ble_eq_true rfl) (by show 0 ≤ b.1 - 8; omega) (by show 0 ≤ b.2 - 48; omega) (Nat.le_of_ble_eq_true rfl) ?_
  refine m_end (QX := PXL) hW hw hM1 hC1 hO (fun h2 f2 e2 hM2 hC2 w2 hw2 => ?_)
  show WpL G 987 [some (.ref (scB G)), some (.ref (D 0 0)), some (.ref m), some (.ref o), some (.int (i32 i)), some (.int (i32 kk)), o6, o7, o8] [.int w2] h2 (b.1 - 8 - 0, b.2 - 48 - 0)
  refine Wp.emp (fun hE => ?_)
  have J2 := J.nx f w hI' hE f2 hM2 hC2 hWF hWW
  rw [← e]
  exact tl_law (q := 987) envT DL_law_987 DL_law_989 DL_law_990 DL_law_993 DL_law_995 DL_law_1000 DL_law_1002 DL_law_1005 DL_law_1006 DL_law_1007 DL_law_1008 DL_law_1010 DL_law_1011 DL_law_1012 DL_law_1017 J2 hk e2 hw2 (fun z => (J.ja f f2).trans (hj z)) (K D' T h2 _ _ _ J2 (by show b.1 ≤ b.1 - 8 - 0 + 60; omega) (by show b.2 ≤ b.2 - 48 - 0 + 1600; omega))
/-! setPrice -/
set_option maxRecDepth 100000 in
set_option maxHeartbeats 4000000 in
theorem lc_setPrice (G : GT) {D : WD} {S : SS} {A : Nat → Nat} {h : Hp} {m o i : Nat} {o5 o6 o7 o8 : Option Value} {b : Nat × Nat} (J : JI G h D m A S o) (hL : scL G ≤ 3584) (hi : i + 6 < scL G) (hb : 60 ≤ b.1 ∧ 1600 ≤ b.2)
    (K : ∀ D' T h' o5 o6 b', JI G h' D' m A T o → b.1 ≤ b'.1 + 60 → b.2 ≤ b'.2 + 1600 → WpL G 1743 [some (.ref (scB G)), some (.ref (D' 0 0)), some (.ref m), some (.ref o), some (.int (i32 i)), o5, o6, o7, o8] [] h' b') :
    WpL G 1020 [some (.ref (scB G)), some (.ref (D 0 0)), some (.ref m), some (.ref o), some (.int (i32 i)), o5, o6, o7, o8] [] h b := by
  have hW := J.1
  have hw := J.2.1
  have hI := J.2.2.1
  have ko := J.2.2.2.2.2.2.1
  have lo := J.2.2.2.2.2.2.2
  refine WpL.al DL_law_1020 rfl ?_
  refine WpL.sa (k := 1) hL (by omega) rfl rfl rfl DL_law_1021 DL_law_1022 DL_law_1024 DL_law_1025 DL_law_1026 ?_
  refine WpL.sa (k := 2) hL (by omega) rfl rfl rfl DL_law_1027 DL_law_1028 DL_law_1030 DL_law_1031 DL_law_1032 ?_
  refine WpL.al DL_law_1033 rfl ?_
  refine WpL.cS (ce := ce_L_setPrice G D S) (As := [.ref (D 0 0), .int (scX G (i + 1)), .int (scX G (i + 2)), .ref o]) (rest := []) DL_law_1034 (env_cons (ceS (by decide +kernel) ⟨by decide, by decide, by decide +kernel⟩ (by decide) (ok_L_setPrice G G D S hW)) envL) rfl (fun _ => rfl) (Nat.le_of_ble_eq_true rfl) (by show 8 ≤ b.1; omega) (by show 48 ≤ b.2; omega) (Nat.le_of_ble_eq_true rfl) ?_
  refine And.intro hI (And.intro hw (And.intro rfl (And.intro ko (And.intro lo (fun kk vv T hO h1 D' e f w hI' hj => ?_)))))
  obtain ⟨hk, hWF, hWW⟩ := wf_setPrice hW hw hO
  obtain ⟨hM1, hC1⟩ := J.md f
  show WpL G 1037 [some (.ref (scB G)), some (.ref (D 0 0)), some (.ref m), some (.ref o), some (.int (i32 i)), o5, o6, o7, o8] [.int (i32 kk)] h1 (b.1 - 8, b.2 - 48)
  refine WpL.is DL_law_1037 (by show 5 < 9; omega) ?_
  show WpL G 1039 [some (.ref (scB G)), some (.ref (D 0 0)), some (.ref m), some (.ref o), some (.int (i32 i)), some (.int (i32 kk)), o6, o7, o8] [] h1 (b.1 - 8, b.2 - 48)
  refine WpL.al DL_law_1039 rfl ?_
  refine WpL.sa (k := 1) hL (by omega) rfl rfl rfl DL_law_1040 DL_law_1041 DL_law_1043 DL_law_1044 DL_law_1045 ?_
  refine WpL.sa (k := 2) hL (by omega) rfl rfl rfl DL_law_1046 DL_law_1047 DL_law_1049 DL_law_1050 DL_law_1051 ?_
  refine WpL.cV (x := 6) (ce := ce_X5_setPrice A S) (As := [.int (scX G (i + 1)), .int (scX G (i + 2))]) (rest := []) DL_law_1052 (env_cons (ceV (by decide +kernel) ⟨by decide, by decide, by decide +kernel⟩ (by decide) rfl (ok_X5_setPrice G A S hW)) envL) rfl (fun _ => rfl) hM1.1.1 (by omega) rfl (Nat.le_of_ble_eq_true rfl) (by show 0 ≤ b.1 - 8; omega) (by show 0 ≤ b.2 - 48; omega) (Nat.le_of_ble_eq_true rfl) ?_
  refine m_setPrice (QX := PXL) hW hw hM1 hC1 hO (fun h2 f2 e2 hM2 hC2 w2 hw2 => ?_)
  show WpL G 1055 [some (.ref (scB G)), some (.ref (D 0 0)), some (.ref m), some (.ref o), some (.int (i32 i)), some (.int (i32 kk)), o6, o7, o8] [.int w2] h2 (b.1 - 8 - 0, b.2 - 48 - 0)
  refine Wp.emp (fun hE => ?_)
  have J2 := J.nx f w hI' hE f2 hM2 hC2 hWF hWW
  rw [← e]
  exact tl_law (q := 1055) envT DL_law_1055 DL_law_1057 DL_law_1058 DL_law_1061 DL_law_1063 DL_law_1068 DL_law_1070 DL_law_1073 DL_law_1074 DL_law_1075 DL_law_1076 DL_law_1078 DL_law_1079 DL_law_1080 DL_law_1085 J2 hk e2 hw2 (fun z => (J.ja f f2).trans (hj z)) (K D' T h2 _ _ _ J2 (by show b.1 ≤ b.1 - 8 - 0 + 60; omega) (by show b.2 ≤ b.2 - 48 - 0 + 1600; omega))
/-! lease -/
set_option maxRecDepth 100000 in
set_option maxHeartbeats 4000000 in
theorem lc_lease (G : GT) {D : WD} {S : SS} {A : Nat → Nat} {h : Hp} {m o i : Nat} {o5 o6 o7 o8 : Option Value} {b : Nat × Nat} (J : JI G h D m A S o) (hL : scL G ≤ 3584) (hi : i + 6 < scL G) (hb : 60 ≤ b.1 ∧ 1600 ≤ b.2)
    (K : ∀ D' T h' o5 o6 b', JI G h' D' m A T o → b.1 ≤ b'.1 + 60 → b.2 ≤ b'.2 + 1600 → WpL G 1743 [some (.ref (scB G)), some (.ref (D' 0 0)), some (.ref m), some (.ref o), some (.int (i32 i)), o5, o6, o7, o8] [] h' b') :
    WpL G 1088 [some (.ref (scB G)), some (.ref (D 0 0)), some (.ref m), some (.ref o), some (.int (i32 i)), o5, o6, o7, o8] [] h b := by
  have hW := J.1
  have hw := J.2.1
  have hI := J.2.2.1
  have ko := J.2.2.2.2.2.2.1
  have lo := J.2.2.2.2.2.2.2
  refine WpL.al DL_law_1088 rfl ?_
  refine WpL.sa (k := 1) hL (by omega) rfl rfl rfl DL_law_1089 DL_law_1090 DL_law_1092 DL_law_1093 DL_law_1094 ?_
  refine WpL.sa (k := 2) hL (by omega) rfl rfl rfl DL_law_1095 DL_law_1096 DL_law_1098 DL_law_1099 DL_law_1100 ?_
  refine WpL.al DL_law_1101 rfl ?_
  refine WpL.cS (ce := ce_L_lease G D S) (As := [.ref (D 0 0), .int (scX G (i + 1)), .int (scX G (i + 2)), .ref o]) (rest := []) DL_law_1102 (env_cons (ceS (by decide +kernel) ⟨by decide, by decide, by decide +kernel⟩ (by decide) (ok_L_lease G G D S hW)) envL) rfl (fun _ => rfl) (Nat.le_of_ble_eq_true rfl) (by show 4 ≤ b.1; omega) (by show 24 ≤ b.2; omega) (Nat.le_of_ble_eq_true rfl) ?_
  refine And.intro hI (And.intro hw (And.intro rfl (And.intro ko (And.intro lo (fun kk vv T hO h1 D' e f w hI' hj => ?_)))))
  obtain ⟨hk, hWF, hWW⟩ := wf_lease hW hw hO
  obtain ⟨hM1, hC1⟩ := J.md f
  show WpL G 1105 [some (.ref (scB G)), some (.ref (D 0 0)), some (.ref m), some (.ref o), some (.int (i32 i)), o5, o6, o7, o8] [.int (i32 kk)] h1 (b.1 - 4, b.2 - 24)
  refine WpL.is DL_law_1105 (by show 5 < 9; omega) ?_
  show WpL G 1107 [some (.ref (scB G)), some (.ref (D 0 0)), some (.ref m), some (.ref o), some (.int (i32 i)), some (.int (i32 kk)), o6, o7, o8] [] h1 (b.1 - 4, b.2 - 24)
  refine WpL.al DL_law_1107 rfl ?_
  refine WpL.sa (k := 1) hL (by omega) rfl rfl rfl DL_law_1108 DL_law_1109 DL_law_1111 DL_law_1112 DL_law_1113 ?_
  refine WpL.sa (k := 2) hL (by omega) rfl rfl rfl DL_law_1114 DL_law_1115 DL_law_1117 DL_law_1118 DL_law_1119 ?_
  refine WpL.cV (x := 6) (ce := ce_X5_lease A S) (As := [.int (scX G (i + 1)), .int (scX G (i + 2))]) (rest := []) DL_law_1120 (env_cons (ceV (by decide +kernel) ⟨by decide, by decide, by decide +kernel⟩ (by decide) rfl (ok_X5_lease G A S hW)) envL) rfl (fun _ => rfl) hM1.1.1 (by omega) rfl (Nat.le_of_ble_eq_true rfl) (by show 0 ≤ b.1 - 4; omega) (by show 0 ≤ b.2 - 24; omega) (Nat.le_of_ble_eq_true rfl) ?_
  refine m_lease (QX := PXL) hW hw hM1 hC1 hO (fun h2 f2 e2 hM2 hC2 w2 hw2 => ?_)
  show WpL G 1123 [some (.ref (scB G)), some (.ref (D 0 0)), some (.ref m), some (.ref o), some (.int (i32 i)), some (.int (i32 kk)), o6, o7, o8] [.int w2] h2 (b.1 - 4 - 0, b.2 - 24 - 0)
  refine Wp.emp (fun hE => ?_)
  have J2 := J.nx f w hI' hE f2 hM2 hC2 hWF hWW
  rw [← e]
  exact tl_law (q := 1123) envT DL_law_1123 DL_law_1125 DL_law_1126 DL_law_1129 DL_law_1131 DL_law_1136 DL_law_1138 DL_law_1141 DL_law_1142 DL_law_1143 DL_law_1144 DL_law_1146 DL_law_1147 DL_law_1148 DL_law_1153 J2 hk e2 hw2 (fun z => (J.ja f f2).trans (hj z)) (K D' T h2 _ _ _ J2 (by show b.1 ≤ b.1 - 4 - 0 + 60; omega) (by show b.2 ≤ b.2 - 24 - 0 + 1600; omega))
/-! gets -/
set_option maxRecDepth 100000 in
set_option maxHeartbeats 4000000 in
theorem lc_gets (G : GT) {D : WD} {S : SS} {A : Nat → Nat} {h : Hp} {m o i : Nat} {o5 o6 o7 o8 : Option Value} {b : Nat × Nat} (J : JI G h D m A S o) (hL : scL G ≤ 3584) (hi : i + 6 < scL G) (hb : 60 ≤ b.1 ∧ 1600 ≤ b.2)
    (K : ∀ D' T h' o5 o6 b', JI G h' D' m A T o → b.1 ≤ b'.1 + 60 → b.2 ≤ b'.2 + 1600 → WpL G 1743 [some (.ref (scB G)), some (.ref (D' 0 0)), some (.ref m), some (.ref o), some (.int (i32 i)), o5, o6, o7, o8] [] h' b') :
    WpL G 1156 [some (.ref (scB G)), some (.ref (D 0 0)), some (.ref m), some (.ref o), some (.int (i32 i)), o5, o6, o7, o8] [] h b := by
  have hW := J.1
  have hw := J.2.1
  have hI := J.2.2.1
  have ko := J.2.2.2.2.2.2.1
  have lo := J.2.2.2.2.2.2.2
  refine WpL.al DL_law_1156 rfl ?_
  refine WpL.sa (k := 1) hL (by omega) rfl rfl rfl DL_law_1157 DL_law_1158 DL_law_1160 DL_law_1161 DL_law_1162 ?_
  refine WpL.sa (k := 2) hL (by omega) rfl rfl rfl DL_law_1163 DL_law_1164 DL_law_1166 DL_law_1167 DL_law_1168 ?_
  refine WpL.al DL_law_1169 rfl ?_
  refine WpL.cS (ce := ce_L_gets G D S) (As := [.ref (D 0 0), .int (scX G (i + 1)), .int (scX G (i + 2)), .ref o]) (rest := []) DL_law_1170 (env_cons (ceS (by decide +kernel) ⟨by decide, by decide, by decide +kernel⟩ (by decide) (ok_L_gets G G D S hW)) envL) rfl (fun _ => rfl) (Nat.le_of_ble_eq_true rfl) (by show 4 ≤ b.1; omega) (by show 24 ≤ b.2; omega) (Nat.le_of_ble_eq_true rfl) ?_
  refine And.intro hI (And.intro hw (And.intro rfl (And.intro ko (And.intro lo (fun kk vv T hO h1 D' e f w hI' hj => ?_)))))
  obtain ⟨hk, hWF, hWW⟩ := wf_gets hW hw hO
  obtain ⟨hM1, hC1⟩ := J.md f
  show WpL G 1173 [some (.ref (scB G)), some (.ref (D 0 0)), some (.ref m), some (.ref o), some (.int (i32 i)), o5, o6, o7, o8] [.int (i32 kk)] h1 (b.1 - 4, b.2 - 24)
  refine WpL.is DL_law_1173 (by show 5 < 9; omega) ?_
  show WpL G 1175 [some (.ref (scB G)), some (.ref (D 0 0)), some (.ref m), some (.ref o), some (.int (i32 i)), some (.int (i32 kk)), o6, o7, o8] [] h1 (b.1 - 4, b.2 - 24)
  refine WpL.al DL_law_1175 rfl ?_
  refine WpL.sa (k := 1) hL (by omega) rfl rfl rfl DL_law_1176 DL_law_1177 DL_law_1179 DL_law_1180 DL_law_1181 ?_
  refine WpL.sa (k := 2) hL (by omega) rfl rfl rfl DL_law_1182 DL_law_1183 DL_law_1185 DL_law_1186 DL_law_1187 ?_
  refine WpL.cV (x := 6) (ce := ce_X5_gets A S) (As := [.int (scX G (i + 1)), .int (scX G (i + 2))]) (rest := []) DL_law_1188 (env_cons (ceV (by decide +kernel) ⟨by decide, by decide, by decide +kernel⟩ (by decide) rfl (ok_X5_gets G A S hW)) envL) rfl (fun _ => rfl) hM1.1.1 (by omega) rfl (Nat.le_of_ble_eq_true rfl) (by show 0 ≤ b.1 - 4; omega) (by show 0 ≤ b.2 - 24; omega) (Nat.le_of_ble_eq_true rfl) ?_
  refine m_gets (QX := PXL) hW hw hM1 hC1 hO (fun h2 f2 e2 hM2 hC2 w2 hw2 => ?_)
  show WpL G 1191 [some (.ref (scB G)), some (.ref (D 0 0)), some (.ref m), some (.ref o), some (.int (i32 i)), some (.int (i32 kk)), o6, o7, o8] [.int w2] h2 (b.1 - 4 - 0, b.2 - 24 - 0)
  refine Wp.emp (fun hE => ?_)
  have J2 := J.nx f w hI' hE f2 hM2 hC2 hWF hWW
  rw [← e]
  exact tl_law (q := 1191) envT DL_law_1191 DL_law_1193 DL_law_1194 DL_law_1197 DL_law_1199 DL_law_1204 DL_law_1206 DL_law_1209 DL_law_1210 DL_law_1211 DL_law_1212 DL_law_1214 DL_law_1215 DL_law_1216 DL_law_1221 J2 hk e2 hw2 (fun z => (J.ja f f2).trans (hj z)) (K D' T h2 _ _ _ J2 (by show b.1 ≤ b.1 - 4 - 0 + 60; omega) (by show b.2 ≤ b.2 - 24 - 0 + 1600; omega))
