set_option maxHeartbeats 4000000 in
set_option maxRecDepth 100000 in
theorem em_readMakes {g : GG} {I : pI} {J : pJ} {R : pR} (hy : Ly g) (hr : Rf g R) {B : Nat → Int} {n p : Nat} {S : TwS}  (hT : TPM g B n I) (hC : CUM g B n p I) (hn : n ≤ 900) (hB : ∀ q, -128 ≤ B q ∧ B q ≤ 127) (hp : p ≤ n) (hR : RTM g S I J) (hPI : PI S) (hSB : SBn S) : SP g mX11_readMakes [.ref (ad g 0)] I J R (fun r I' J' R' => R' = R ∧ FC g [0, 29] I I' ∧ FC g [] J J' ∧ FQ g [3, 4, 5, 6, 7, 8, 9] I I' ∧ ∃ v : Int32, r = some (.int v) ∧ ((v.toInt = 0 ∧ ERR g (clu B n 5 p S) I') ∨ (v.toInt = 1 ∧ ∃ S2 P2 p2, clu B n 5 p S = .ok (S2, P2, p2) ∧ RTM g (tel 5 P2 S2) I' J' ∧ TPM g B n I' ∧ CUM g B n p2 I' ∧ NOF g I I'))) := by
  refine SP_of ⟨by decide, rfl⟩ (Nat.le_of_ble_eq_true rfl) ?_
  have fI0 : FC g [0, 29] I I := FC_rf
  have fJ0 : FC g [] J J := FC_rf
  have fQ0 : FQ g [3, 4, 5, 6, 7, 8, 9] I I := FQ_rf
  obtain ⟨w1688, ew1688⟩ : ∃ w : Int32, I (ad g 0) 3 = w := ⟨_, rfl⟩
  obtain ⟨w1689, ew1689⟩ : ∃ w : Int32, I (ad g 0) 7 = w := ⟨_, rfl⟩
  obtain ⟨w1690, ew1690⟩ : ∃ w : Int32, I (ad g 0) 8 = w := ⟨_, rfl⟩
  obtain ⟨w1691, ew1691⟩ : ∃ w : Int32, I (ad g 0) 9 = w := ⟨_, rfl⟩
  obtain ⟨w1692, ew1692⟩ : ∃ w : Int32, I (ad g 0) 16 = w := ⟨_, rfl⟩
  have nf0 : NOF g I I := NOF_rf
  have ha : ahd 5 S = 0 := by
    unfold ahd
    rw [if_neg (by omega), if_neg (by rintro ⟨z, -⟩; omega)]
  have E0 : prts B n 5 (SHP 5) 0 (tT B n p) S (fun _ => 0) = prts B n 5 ((SHP 5).drop 0) 0 (tT B n p) S (fun _ => 0) := rfl
  have hbb := hSB
  unfold SBn at hbb
  refine WP_aload_n dX11_readMakes_0 rfl ?_
  refine WP_callV0 (k := 11) dX11_readMakes_1 ⟨⟨⟨by decide, by decide⟩, zX11_scan⟩, lX11_63, by decide, rfl, vX11_scan.1, vX11_scan.2⟩ (ly_is hy 0 11 rfl) (em_scan hy hr   hT hn hB hC.2.1 (tT_le B hp).2) (Nat.le_of_ble_eq_true rfl) ?_
  intro r I1694 J1695 Ra hq
  obtain ⟨ec, g1696, g1697, g1698, er, p1693⟩ := hq
  rw [ec, er]
  clear ec er Ra r
  have e1699 : I1694 (ad g 0) 7 = w1689 := by rw [g1698 7 (by decide)]; exact ew1689
  have e1700 : I1694 (ad g 0) 8 = w1690 := by rw [g1698 8 (by decide)]; exact ew1690
  have e1701 : I1694 (ad g 0) 9 = w1691 := by rw [g1698 9 (by decide)]; exact ew1691
  have e1702 : I1694 (ad g 0) 16 = w1692 := by rw [g1698 16 (by decide)]; exact ew1692
  have fI1703 : FC g [0, 29] I I1694 := FC_tr fI0 (FC_mono g1696 (by decide))
  have fJ1704 : FC g [] J J1695 := FC_tr fJ0 (FC_mono g1697 (by decide))
  have fQ1705 : FQ g [3, 4, 5, 6, 7, 8, 9] I I1694 := FQ_tr fQ0 (FQ_mono g1698 (by decide))
  obtain ⟨w1706, ew1706⟩ : ∃ w : Int32, I1694 (ad g 0) 3 = w := ⟨_, rfl⟩
  try simp only [ew1706, e1699, e1700, e1701, e1702, ew1688, ew1689, ew1690, ew1691, ew1692] at p1693
  obtain ⟨hT1, hC1⟩ := p1693
  have hR1 := RTM_fr hy hR g1696 g1697 g1698 (by decide) (by decide) (by decide)
  have nf1 := NOF_tr nf0 (NOF_fq g1698 (by decide))
  have hq1 := (tT_le B hp).2
  refine WP_aload_n dX11_readMakes_4 rfl ?_
  refine WP_aload_n dX11_readMakes_5 rfl ?_
  refine WP_getr dX11_readMakes_6 fX11_129 rfl (ly_is hy 0 11 rfl) (rf hr 0 23 5 (by decide)) ?_
  refine WP_aload_n dX11_readMakes_9 rfl ?_
  refine WQ_getim dX11_readMakes_10 fX11_126 rfl (ly_is hy 0 11 rfl) e1702 ?_
  refine WP_callV2 (k := 11) dX11_readMakes_13 ⟨⟨⟨by decide, by decide⟩, zX11_known⟩, lX11_147, by decide, rfl, vX11_known.1, vX11_known.2⟩ (ly_is hy 0 11 rfl) (em_knownb hy hr _  (c := 5) (i := 0) (S := S) (P := (fun _ => 0)) hT1 hC1 hn hB hq1 hR1.2.2.2.2.2.2.2 hSB (by have z := hR1.1.2.1; simp only [e1702] at z; exact z)) (Nat.le_of_ble_eq_true rfl) ?_
  intro r I1709 J1710 Ra hq
  obtain ⟨ec, g1711, g1712, g1713, v1708, er, p1707⟩ := hq
  rw [ec, er]
  clear ec er Ra r
  have e1714 : I1709 (ad g 0) 16 = w1692 := by rw [g1713 16 (by decide)]; exact e1702
  have fI1715 : FC g [0, 29] I I1709 := FC_tr fI1703 (FC_mono g1711 (by decide))
  have fJ1716 : FC g [] J J1710 := FC_tr fJ1704 (FC_mono g1712 (by decide))
  have fQ1717 : FQ g [3, 4, 5, 6, 7, 8, 9] I I1709 := FQ_tr fQ1705 (FQ_mono g1713 (by decide))
  obtain ⟨w1718, ew1718⟩ : ∃ w : Int32, I1709 (ad g 0) 3 = w := ⟨_, rfl⟩
  obtain ⟨w1719, ew1719⟩ : ∃ w : Int32, I1709 (ad g 0) 7 = w := ⟨_, rfl⟩
  obtain ⟨w1720, ew1720⟩ : ∃ w : Int32, I1709 (ad g 0) 8 = w := ⟨_, rfl⟩
  obtain ⟨w1721, ew1721⟩ : ∃ w : Int32, I1709 (ad g 0) 9 = w := ⟨_, rfl⟩
  try simp only [ew1718, ew1719, ew1720, ew1721, e1714, ew1688, ew1689, ew1690, ew1691, ew1692] at p1707
  refine WQ_if_ne 21 dX11_readMakes_16 rfl (fun c1721 => ?_) (fun c1721 => ?_)
  · obtain ⟨-, kz, lb2, ub2, gt2, hT2, hC2, nz⟩ := Or.resolve_left p1707 (by rintro ⟨z, -⟩; omega)
    clear p1707
    have hR2 := RTM_fr hy hR1 g1711 g1712 g1713 (by decide) (by decide) (by decide)
    have nf2 := NOF_tr nf1 nz
    have hq2 := (tT_le B hq1).2
    clear nz
    obtain ⟨P1, hPa1, hPb1, k1⟩ : ∃ P9 : Nat → Int, P9 0 = fnT S (tW B n (tT B n p)) ∧ (∀ j, j ≠ 0 → P9 j = (fun _ => 0) j) ∧ prt B n 5 0 116 (tT B n p) S (fun _ => 0) = .ok (S, P9) := ⟨fun j => if j = 0 then fnT S (tW B n (tT B n p)) else (fun _ => 0) j, if_pos rfl, fun j hj => if_neg hj, kz⟩
    have E1 := clu_go E0 (by decide) rfl k1
    clear kz
    refine WP_aload_n dX11_readMakes_21 rfl ?_
    refine WQ_getim dX11_readMakes_22 fX11_56 rfl (ly_is hy 0 11 rfl) ew1719 ?_
    refine WP_istore_n (ls' := [(0, _), (1, _)]) dX11_readMakes_25 (by decide) rfl ?_
    refine WP_aload_n dX11_readMakes_26 rfl ?_
    refine WQ_iconst (0) (0) dX11_readMakes_27 rfl rfl (fun v1723 hv1723 => ?_)
    refine WQ_bipush (6) (6) dX11_readMakes_28 rfl rfl (fun v1724 hv1724 => ?_)
    refine WP_callV2 (k := 11) dX11_readMakes_30 ⟨⟨⟨by decide, by decide⟩, zX11_peek⟩, lX11_59, by decide, rfl, vX11_peek.1, vX11_peek.2⟩ (ly_is hy 0 11 rfl) (em_peekD hy hr _ _  (c := 5) (i := 1) (S := S) (P := P1) hT2 hC2 hn hB hq2 (by omega) (by omega)) (Nat.le_of_ble_eq_true rfl) ?_
    intro r I1727 J1728 Ra hq
    obtain ⟨ec, g1729, g1730, g1731, v1726, er, p1725⟩ := hq
    rw [ec, er]
    clear ec er Ra r
    have e1732 : I1727 (ad g 0) 16 = w1692 := by rw [g1731 16 (by decide)]; exact e1714
    have e1733 : I1727 (ad g 0) 3 = w1718 := by rw [g1731 3 (by decide)]; exact ew1718
    have fI1734 : FC g [0, 29] I I1727 := FC_tr fI1715 (FC_mono g1729 (by decide))
    have fJ1735 : FC g [] J J1728 := FC_tr fJ1716 (FC_mono g1730 (by decide))
    have fQ1736 : FQ g [3, 4, 5, 6, 7, 8, 9] I I1727 := FQ_tr fQ1717 (FQ_mono g1731 (by decide))
    obtain ⟨w1737, ew1737⟩ : ∃ w : Int32, I1727 (ad g 0) 7 = w := ⟨_, rfl⟩
    obtain ⟨w1738, ew1738⟩ : ∃ w : Int32, I1727 (ad g 0) 8 = w := ⟨_, rfl⟩
    obtain ⟨w1739, ew1739⟩ : ∃ w : Int32, I1727 (ad g 0) 9 = w := ⟨_, rfl⟩
    try simp only [e1733, ew1737, ew1738, ew1739, e1732, ew1688, ew1689, ew1690, ew1691, ew1692] at p1725
    refine WQ_if_ne 38 dX11_readMakes_33 rfl (fun c1739 => ?_) (fun c1739 => ?_)
    · obtain ⟨-, tk3, lb3, ub3, gt3, nz⟩ := Or.resolve_left p1725 (by rintro ⟨z, -⟩; omega)
      clear p1725
      have hR3 := RTM_fr hy hR2 g1729 g1730 g1731 (by decide) (by decide) (by decide)
      have nf3 := NOF_tr nf2 nz
      have hT3 := tpm_fq hy hT2 g1729 (by decide) g1731 (by decide)
      have hC3 := cum_fq hC2 g1731 (by decide)
      clear nz
      refine WQ_bipush (7) (7) dX11_readMakes_38 rfl rfl (fun v1741 hv1741 => ?_)
      refine WP_iload_n dX11_readMakes_40 rfl ?_
      refine WQ_imulK (7) dX11_readMakes_41 hv1741 (by omega) (by omega) (fun v1742 hv1742 => ?_)
      refine WP_aload_n dX11_readMakes_42 rfl ?_
      refine WQ_getim dX11_readMakes_43 fX11_56 rfl (ly_is hy 0 11 rfl) ew1737 ?_
      refine WQ_iadd dX11_readMakes_46 (by omega) (by omega) (fun v1743 hv1743 => ?_)
      refine WP_istore_n (ls' := [(0, _), (1, _), (2, _)]) dX11_readMakes_47 (by decide) rfl ?_
      refine WP_aload_n dX11_readMakes_48 rfl ?_
      refine WP_getr dX11_readMakes_49 fX11_144 rfl (ly_is hy 0 11 rfl) (rf hr 0 47 29 (by decide)) ?_
      refine WP_iload_n dX11_readMakes_52 rfl ?_
      refine WE_ia dX11_readMakes_53 (ly_is hy 29 13 rfl) (ly_n hy 29 21 rfl) (by omega) (by omega) (fun v1744 ev1744 => ?_)
      have hrow : v1744.toInt = S.1 13 ((fnT S (tW B n (tT B n p))).toNat * 7 + (tV B n (tT B n (tT B n p))).toNat) := by
        rw [← ev1744, show v1743.toInt.toNat = ((fnT S (tW B n (tT B n p))).toNat * 7 + (tV B n (tT B n (tT B n p))).toNat) by omega]
        exact hR3.2.2.2.2.1 (29, 13, 7) (by decide) ((fnT S (tW B n (tT B n p))).toNat * 7 + (tV B n (tT B n (tT B n p))).toNat) (by show (((((fnT S (tW B n (tT B n p))).toNat * 7 + (tV B n (tT B n (tT B n p))).toNat)) : Nat) : Int) < ((7 : Nat) : Int) * S.1 0 2; omega)
      have hmk := hPI.2.2.2.2.2.2.2.1 (fnT S (tW B n (tT B n p))).toNat (tV B n (tT B n (tT B n p))).toNat (by omega) (by omega)
      refine WQ_iconst (-1) (-1) dX11_readMakes_54 rfl rfl (fun v1745 hv1745 => ?_)
      refine WQ_icmp_eq 64 dX11_readMakes_55 rfl (fun c1745 => ?_) (fun c1745 => ?_)
      · obtain ⟨P2, hPa2, hPb2, k2⟩ : ∃ P9 : Nat → Int, P9 1 = tV B n (tT B n (tT B n p)) ∧ (∀ j, j ≠ 1 → P9 j = P1 j) ∧ prt B n 5 1 68 (tT B n (tT B n p)) S P1 = .ok (S, P9) := ⟨fun j => if j = 1 then tV B n (tT B n (tT B n p)) else P1 j, if_pos rfl, fun j hj => if_neg hj, prt_D (r := 20 + (fnT S (tW B n (tT B n p))).toNat) tk3 lb3 ub3 (by rw [if_neg (by decide), hPa1]) (by rw [← Bool.not_eq_true]; intro z; exact absurd (hmk.mp z) (by omega))⟩
        have E2 := clu_go E1 (by decide) rfl k2
        have hR4 := RTM_b hSB hR3 (20 + (fnT S (tW B n (tT B n p))).toNat) (tV B n (tT B n (tT B n p))).toNat (by omega)
        refine WP_aload_n dX11_readMakes_64 rfl ?_
        refine WP_callV0 (k := 11) dX11_readMakes_65 ⟨⟨⟨by decide, by decide⟩, zX11_scan⟩, lX11_63, by decide, rfl, vX11_scan.1, vX11_scan.2⟩ (ly_is hy 0 11 rfl) (em_scan hy hr   hT3 hn hB hC3.2.1 (tT_le B hq2).2) (Nat.le_of_ble_eq_true rfl) ?_
        intro r I1748 J1749 Ra hq
        obtain ⟨ec, g1750, g1751, g1752, er, p1747⟩ := hq
        rw [ec, er]
        clear ec er Ra r
        have e1753 : I1748 (ad g 0) 16 = w1692 := by rw [g1752 16 (by decide)]; exact e1732
        have e1754 : I1748 (ad g 0) 7 = w1737 := by rw [g1752 7 (by decide)]; exact ew1737
        have e1755 : I1748 (ad g 0) 8 = w1738 := by rw [g1752 8 (by decide)]; exact ew1738
        have e1756 : I1748 (ad g 0) 9 = w1739 := by rw [g1752 9 (by decide)]; exact ew1739
        have e1757 : I1748 (ad g 29) v1743.toInt.toNat = v1744 := by rw [FC_at hy g1750 29 (by decide) (by decide)]; exact ev1744
        have fI1758 : FC g [0, 29] I I1748 := FC_tr fI1734 (FC_mono g1750 (by decide))
        have fJ1759 : FC g [] J J1749 := FC_tr fJ1735 (FC_mono g1751 (by decide))
        have fQ1760 : FQ g [3, 4, 5, 6, 7, 8, 9] I I1748 := FQ_tr fQ1736 (FQ_mono g1752 (by decide))
        obtain ⟨w1761, ew1761⟩ : ∃ w : Int32, I1748 (ad g 0) 3 = w := ⟨_, rfl⟩
        try simp only [ew1761, e1754, e1755, e1756, e1753, ew1688, ew1689, ew1690, ew1691, ew1692] at p1747
        obtain ⟨hT5, hC5⟩ := p1747
        have hR5 := RTM_fr hy hR4 g1750 g1751 g1752 (by decide) (by decide) (by decide)
        have nf5 := NOF_tr nf3 (NOF_fq g1752 (by decide))
        have hq5 := (tT_le B hq2).2
        refine WP_aload_n dX11_readMakes_68 rfl ?_
        refine WQ_iconst (0) (0) dX11_readMakes_69 rfl rfl (fun v1762 hv1762 => ?_)
        refine WQ_sipush (999) (999) dX11_readMakes_70 rfl rfl (fun v1763 hv1763 => ?_)
        refine WP_callV2 (k := 11) dX11_readMakes_73 ⟨⟨⟨by decide, by decide⟩, zX11_number⟩, lX11_81, by decide, rfl, vX11_number.1, vX11_number.2⟩ (ly_is hy 0 11 rfl) (em_num hy hr _ _  (c := 5) (i := 2) (ch := 77) (S := S) (P := P2) hT5 hC5 hn hB hq5 (by decide) (by decide) (by rw [show loB 77 = 0 from rfl]; omega) (by rw [show hiB 77 = 999 from rfl]; omega)) (Nat.le_of_ble_eq_true rfl) ?_
        intro r I1766 J1767 Ra hq
        obtain ⟨ec, g1768, g1769, g1770, v1765, er, p1764⟩ := hq
        rw [ec, er]
        clear ec er Ra r
        have e1771 : I1766 (ad g 0) 16 = w1692 := by rw [g1770 16 (by decide)]; exact e1753
        have e1772 : I1766 (ad g 29) v1743.toInt.toNat = v1744 := by rw [FC_at hy g1768 29 (by decide) (by decide)]; exact e1757
        have fI1773 : FC g [0, 29] I I1766 := FC_tr fI1758 (FC_mono g1768 (by decide))
        have fJ1774 : FC g [] J J1767 := FC_tr fJ1759 (FC_mono g1769 (by decide))
        have fQ1775 : FQ g [3, 4, 5, 6, 7, 8, 9] I I1766 := FQ_tr fQ1760 (FQ_mono g1770 (by decide))
        obtain ⟨w1776, ew1776⟩ : ∃ w : Int32, I1766 (ad g 0) 3 = w := ⟨_, rfl⟩
        obtain ⟨w1777, ew1777⟩ : ∃ w : Int32, I1766 (ad g 0) 7 = w := ⟨_, rfl⟩
        obtain ⟨w1778, ew1778⟩ : ∃ w : Int32, I1766 (ad g 0) 8 = w := ⟨_, rfl⟩
        obtain ⟨w1779, ew1779⟩ : ∃ w : Int32, I1766 (ad g 0) 9 = w := ⟨_, rfl⟩
        try simp only [ew1776, ew1777, ew1778, ew1779, e1771, ew1688, ew1689, ew1690, ew1691, ew1692] at p1764
        refine WQ_if_ne 81 dX11_readMakes_76 rfl (fun c1779 => ?_) (fun c1779 => ?_)
        · obtain ⟨-, kz, lb6, ub6, gt6, hT6, hC6, nz⟩ := Or.resolve_left p1764 (by rintro ⟨z, -⟩; omega)
          clear p1764
          have hR6 := RTM_fr hy hR5 g1768 g1769 g1770 (by decide) (by decide) (by decide)
          have nf6 := NOF_tr nf5 nz
          have hq6 := (tT_le B hq5).2
          clear nz
          obtain ⟨P3, hPa3, hPb3, k3⟩ : ∃ P9 : Nat → Int, P9 2 = tV B n (tT B n (tT B n (tT B n p))) ∧ (∀ j, j ≠ 2 → P9 j = P2 j) ∧ prt B n 5 2 77 (tT B n (tT B n (tT B n p))) S P2 = .ok (S, P9) := ⟨fun j => if j = 2 then tV B n (tT B n (tT B n (tT B n p))) else P2 j, if_pos rfl, fun j hj => if_neg hj, kz⟩
          have E3 := clu_go E2 (by decide) rfl k3
          clear kz
          refine WP_aload_n dX11_readMakes_81 rfl ?_
          refine WP_getr dX11_readMakes_82 fX11_144 rfl (ly_is hy 0 11 rfl) (rf hr 0 47 29 (by decide)) ?_
          refine WP_iload_n dX11_readMakes_85 rfl ?_
          refine WP_aload_n dX11_readMakes_86 rfl ?_
          refine WQ_getim dX11_readMakes_87 fX11_56 rfl (ly_is hy 0 11 rfl) ew1777 ?_
          refine WE_is dX11_readMakes_90 (ly_is hy 29 13 rfl) (ly_n hy 29 21 rfl) (by omega) (by omega) (fun I1781 eI1781 => ?_)
          have e1782 : I1781 (ad g 0) 16 = w1692 := by rw [eI1781, pp_ne _ _ (Or.inl (ly_ne hy (by decide) (by decide) (by decide)))]; exact e1771
          have e1783 : I1781 (ad g 0) 3 = w1776 := by rw [eI1781, pp_ne _ _ (Or.inl (ly_ne hy (by decide) (by decide) (by decide)))]; exact ew1776
          have e1784 : I1781 (ad g 0) 7 = w1777 := by rw [eI1781, pp_ne _ _ (Or.inl (ly_ne hy (by decide) (by decide) (by decide)))]; exact ew1777
          have e1785 : I1781 (ad g 0) 8 = w1778 := by rw [eI1781, pp_ne _ _ (Or.inl (ly_ne hy (by decide) (by decide) (by decide)))]; exact ew1778
          have e1786 : I1781 (ad g 0) 9 = w1779 := by rw [eI1781, pp_ne _ _ (Or.inl (ly_ne hy (by decide) (by decide) (by decide)))]; exact ew1779
          have fI1787 : FC g [0, 29] I I1781 := by rw [eI1781]; exact FC_pp fI1773 (by decide)
          have fQ1788 : FQ g [3, 4, 5, 6, 7, 8, 9] I I1781 := by rw [eI1781]; exact FQ_ppn (ly_ne hy (by decide) (by decide) (by decide)) fQ1775
          have hR7 : RTM g (pp S.1 13 ((fnT S (tW B n (tT B n p))).toNat * 7 + (tV B n (tT B n (tT B n p))).toNat) (tV B n (tT B n (tT B n (tT B n p)))), pp S.2 (20 + (fnT S (tW B n (tT B n p))).toNat) (tV B n (tT B n (tT B n p))).toNat true) I1781 J1767 := by
            rw [eI1781, show v1743.toInt.toNat = ((fnT S (tW B n (tT B n p))).toNat * 7 + (tV B n (tT B n (tT B n p))).toNat) by omega]
            exact RTM_rt hy hR6 (29, 13, 7) (by decide) _ _ _ (by omega)
          have hT7 : TPM g B n I1781 := by rw [eI1781]; exact tpm_pp hy hT6 (by decide)
          have hC7 : CUM g B n (tT B n (tT B n (tT B n (tT B n p)))) I1781 := by rw [eI1781]; exact cum_pp hy hC6 (by decide)
          have nf7 : NOF g I I1781 := by rw [eI1781]; exact NOF_tr nf6 (NOF_pp hy (by decide))
          refine WQ_iconst (1) (1) dX11_readMakes_91 rfl rfl (fun v1789 hv1789 => ?_)
          exact WP_zret dX11_readMakes_92 rfl (nar_z (by omega)) ⟨rfl, fI1787, fJ1774, fQ1788, v1789, rfl, by
            try simp only [e1782, e1783, e1784, e1785, e1786, ew1688, ew1689, ew1690, ew1691, ew1692]
            refine Or.inr ⟨by omega, S, P3, (tT B n (tT B n (tT B n (tT B n p)))), clu_ok ha E3, ?_, hT7, hC7, nf7⟩
            show RTM g (pp (pp S.1 0 0 (S.1 0 0 + 1)) 13 ((P3 0).toNat * 7 + (P3 1).toNat) (P3 2), pp S.2 (20 + (P3 0).toNat) (P3 1).toNat true) _ _
            rw [hPa3, hPb3 0 (by decide), hPb3 1 (by decide), hPa2, hPb2 0 (by decide), hPa1, pp_comm (Or.inl (by decide))]
            exact RTM_cnt _ hR7⟩
        · refine WQ_iconst (0) (0) dX11_readMakes_79 rfl rfl (fun v1790 hv1790 => ?_)
          exact WP_zret dX11_readMakes_80 rfl (nar_z (by omega)) ⟨rfl, fI1773, fJ1774, fQ1775, v1790, rfl, by
            try simp only [e1771, ew1776, ew1777, ew1778, ew1779, ew1688, ew1689, ew1690, ew1691, ew1692]
            rcases p1764 with ⟨-, e⟩ | ⟨z, -⟩
            · exact Or.inl ⟨by omega, ERR_to e (fun er h => clu_er ha E2 (by decide) rfl h)⟩
            · exact absurd z (by omega)⟩
      · have c3z := hC3.1
        try simp only [e1733] at c3z
        refine WP_aload_n dX11_readMakes_58 rfl ?_
        refine WQ_iconst (3) (3) dX11_readMakes_59 rfl rfl (fun v1791 hv1791 => ?_)
        refine WP_callV1 (k := 11) dX11_readMakes_60 ⟨⟨⟨by decide, by decide⟩, zX11_bad⟩, lX11_49, by decide, rfl, vX11_bad.1, vX11_bad.2⟩ (ly_is hy 0 11 rfl) (em_bad hy hr _  ) (Nat.le_of_ble_eq_true rfl) ?_
        intro r I1794 J1795 Ra hq
        obtain ⟨ec, g1796, g1797, g1798, v1793, er, p1792⟩ := hq
        rw [ec, er]
        clear ec er Ra r
        have e1799 : I1794 (ad g 0) 16 = w1692 := by rw [g1798 16 (by decide)]; exact e1732
        have e1800 : I1794 (ad g 0) 3 = w1718 := by rw [g1798 3 (by decide)]; exact e1733
        have e1801 : I1794 (ad g 0) 7 = w1737 := by rw [g1798 7 (by decide)]; exact ew1737
        have e1802 : I1794 (ad g 29) v1743.toInt.toNat = v1744 := by rw [FC_at hy g1796 29 (by decide) (by decide)]; exact ev1744
        have fI1803 : FC g [0, 29] I I1794 := FC_tr fI1734 (FC_mono g1796 (by decide))
        have fJ1804 : FC g [] J J1795 := FC_tr fJ1735 (FC_mono g1797 (by decide))
        have fQ1805 : FQ g [3, 4, 5, 6, 7, 8, 9] I I1794 := FQ_tr fQ1736 (FQ_mono g1798 (by decide))
        obtain ⟨w1806, ew1806⟩ : ∃ w : Int32, I1794 (ad g 0) 8 = w := ⟨_, rfl⟩
        obtain ⟨w1807, ew1807⟩ : ∃ w : Int32, I1794 (ad g 0) 9 = w := ⟨_, rfl⟩
        try simp only [e1800, e1801, ew1806, ew1807, e1799, ew1688, ew1689, ew1690, ew1691, ew1692] at p1792
        obtain ⟨z0, z8, z9⟩ := p1792
        try simp only [e1733] at z9
        exact WP_zret dX11_readMakes_63 rfl (nar_z (by omega)) ⟨rfl, fI1803, fJ1804, fQ1805, v1793, rfl, by
          try simp only [e1799, e1800, e1801, ew1806, ew1807, ew1688, ew1689, ew1690, ew1691, ew1692]
          refine Or.inl ⟨by omega, 3, tF B n (tT B n (tT B n p)), clu_er ha E1 (by decide) rfl (prt_Dx (r := 20 + (fnT S (tW B n (tT B n p))).toNat) tk3 lb3 ub3 (by rw [if_neg (by decide), hPa1]) (hmk.mpr (by omega))), ?_⟩
          unfold ERM
          try simp only [ew1806, ew1807]
          exact ⟨by rw [z8]; omega, by rw [z9]; omega⟩⟩
    · refine WQ_iconst (0) (0) dX11_readMakes_36 rfl rfl (fun v1808 hv1808 => ?_)
      exact WP_zret dX11_readMakes_37 rfl (nar_z (by omega)) ⟨rfl, fI1734, fJ1735, fQ1736, v1808, rfl, by
        try simp only [e1732, e1733, ew1737, ew1738, ew1739, ew1688, ew1689, ew1690, ew1691, ew1692]
        rcases p1725 with ⟨-, e⟩ | ⟨z, -⟩
        · exact Or.inl ⟨by omega, ERR_to e (fun er h => clu_er ha E1 (by decide) rfl h)⟩
        · exact absurd z (by omega)⟩
  · refine WQ_iconst (0) (0) dX11_readMakes_19 rfl rfl (fun v1809 hv1809 => ?_)
    exact WP_zret dX11_readMakes_20 rfl (nar_z (by omega)) ⟨rfl, fI1715, fJ1716, fQ1717, v1809, rfl, by
      try simp only [e1714, ew1718, ew1719, ew1720, ew1721, ew1688, ew1689, ew1690, ew1691, ew1692]
      rcases p1707 with ⟨-, e⟩ | ⟨z, -⟩
      · exact Or.inl ⟨by omega, ERR_to e (fun er h => clu_er ha E0 (by decide) rfl h)⟩
      · exact absurd z (by omega)⟩
set_option maxHeartbeats 4000000 in
set_option maxRecDepth 100000 in
theorem em_readWants {g : GG} {I : pI} {J : pJ} {R : pR} (hy : Ly g) (hr : Rf g R) {B : Nat → Int} {n p : Nat} {S : TwS}  (hT : TPM g B n I) (hC : CUM g B n p I) (hn : n ≤ 900) (hB : ∀ q, -128 ≤ B q ∧ B q ≤ 127) (hp : p ≤ n) (hR : RTM g S I J) (hPI : PI S) (hSB : SBn S) : SP g mX11_readWants [.ref (ad g 0)] I J R (fun r I' J' R' => R' = R ∧ FC g [0, 30, 31, 32] I I' ∧ FC g [] J J' ∧ FQ g [3, 4, 5, 6, 7, 8, 9] I I' ∧ ∃ v : Int32, r = some (.int v) ∧ ((v.toInt = 0 ∧ ERR g (clu B n 6 p S) I') ∨ (v.toInt = 1 ∧ ∃ S2 P2 p2, clu B n 6 p S = .ok (S2, P2, p2) ∧ RTM g (tel 6 P2 S2) I' J' ∧ TPM g B n I' ∧ CUM g B n p2 I' ∧ NOF g I I'))) := by
  refine SP_of ⟨by decide, rfl⟩ (Nat.le_of_ble_eq_true rfl) ?_
  have fI0 : FC g [0, 30, 31, 32] I I := FC_rf
  have fJ0 : FC g [] J J := FC_rf
  have fQ0 : FQ g [3, 4, 5, 6, 7, 8, 9] I I := FQ_rf
  obtain ⟨w1810, ew1810⟩ : ∃ w : Int32, I (ad g 0) 3 = w := ⟨_, rfl⟩
  obtain ⟨w1811, ew1811⟩ : ∃ w : Int32, I (ad g 0) 7 = w := ⟨_, rfl⟩
  obtain ⟨w1812, ew1812⟩ : ∃ w : Int32, I (ad g 0) 8 = w := ⟨_, rfl⟩
  obtain ⟨w1813, ew1813⟩ : ∃ w : Int32, I (ad g 0) 9 = w := ⟨_, rfl⟩
  obtain ⟨w1814, ew1814⟩ : ∃ w : Int32, I (ad g 0) 15 = w := ⟨_, rfl⟩
  obtain ⟨w1815, ew1815⟩ : ∃ w : Int32, I (ad g 0) 16 = w := ⟨_, rfl⟩
  have nf0 : NOF g I I := NOF_rf
  have ha : ahd 6 S = 0 := by
    unfold ahd
    rw [if_neg (by omega), if_neg (by rintro ⟨z, -⟩; omega)]
  have E0 : prts B n 6 (SHP 6) 0 (tT B n p) S (fun _ => 0) = prts B n 6 ((SHP 6).drop 0) 0 (tT B n p) S (fun _ => 0) := rfl
  have hbb := hSB
  unfold SBn at hbb
  refine WP_aload_n dX11_readWants_0 rfl ?_
  refine WP_callV0 (k := 11) dX11_readWants_1 ⟨⟨⟨by decide, by decide⟩, zX11_scan⟩, lX11_63, by decide, rfl, vX11_scan.1, vX11_scan.2⟩ (ly_is hy 0 11 rfl) (em_scan hy hr   hT hn hB hC.2.1 (tT_le B hp).2) (Nat.le_of_ble_eq_true rfl) ?_
  intro r I1817 J1818 Ra hq
  obtain ⟨ec, g1819, g1820, g1821, er, p1816⟩ := hq
  rw [ec, er]
  clear ec er Ra r
  have e1822 : I1817 (ad g 0) 7 = w1811 := by rw [g1821 7 (by decide)]; exact ew1811
  have e1823 : I1817 (ad g 0) 8 = w1812 := by rw [g1821 8 (by decide)]; exact ew1812
  have e1824 : I1817 (ad g 0) 9 = w1813 := by rw [g1821 9 (by decide)]; exact ew1813
  have e1825 : I1817 (ad g 0) 15 = w1814 := by rw [g1821 15 (by decide)]; exact ew1814
  have e1826 : I1817 (ad g 0) 16 = w1815 := by rw [g1821 16 (by decide)]; exact ew1815
  have fI1827 : FC g [0, 30, 31, 32] I I1817 := FC_tr fI0 (FC_mono g1819 (by decide))
  have fJ1828 : FC g [] J J1818 := FC_tr fJ0 (FC_mono g1820 (by decide))
  have fQ1829 : FQ g [3, 4, 5, 6, 7, 8, 9] I I1817 := FQ_tr fQ0 (FQ_mono g1821 (by decide))
  obtain ⟨w1830, ew1830⟩ : ∃ w : Int32, I1817 (ad g 0) 3 = w := ⟨_, rfl⟩
  try simp only [ew1830, e1822, e1823, e1824, e1825, e1826, ew1810, ew1811, ew1812, ew1813, ew1814, ew1815] at p1816
  obtain ⟨hT1, hC1⟩ := p1816
  have hR1 := RTM_fr hy hR g1819 g1820 g1821 (by decide) (by decide) (by decide)
  have nf1 := NOF_tr nf0 (NOF_fq g1821 (by decide))
  have hq1 := (tT_le B hp).2
  refine WP_aload_n dX11_readWants_4 rfl ?_
  refine WP_aload_n dX11_readWants_5 rfl ?_
  refine WP_getr dX11_readWants_6 fX11_91 rfl (ly_is hy 0 11 rfl) (rf hr 0 22 4 (by decide)) ?_
  refine WP_aload_n dX11_readWants_9 rfl ?_
  refine WQ_getim dX11_readWants_10 fX11_88 rfl (ly_is hy 0 11 rfl) e1825 ?_
  refine WP_callV2 (k := 11) dX11_readWants_13 ⟨⟨⟨by decide, by decide⟩, zX11_known⟩, lX11_147, by decide, rfl, vX11_known.1, vX11_known.2⟩ (ly_is hy 0 11 rfl) (em_knowna hy hr _  (c := 6) (i := 0) (S := S) (P := (fun _ => 0)) hT1 hC1 hn hB hq1 hR1.2.2.2.2.2.2.2 hSB (by have z := hR1.1.1; simp only [e1825] at z; exact z) (by decide)) (Nat.le_of_ble_eq_true rfl) ?_
  intro r I1833 J1834 Ra hq
  obtain ⟨ec, g1835, g1836, g1837, v1832, er, p1831⟩ := hq
  rw [ec, er]
  clear ec er Ra r
  have e1838 : I1833 (ad g 0) 15 = w1814 := by rw [g1837 15 (by decide)]; exact e1825
  have e1839 : I1833 (ad g 0) 16 = w1815 := by rw [g1837 16 (by decide)]; exact e1826
  have fI1840 : FC g [0, 30, 31, 32] I I1833 := FC_tr fI1827 (FC_mono g1835 (by decide))
  have fJ1841 : FC g [] J J1834 := FC_tr fJ1828 (FC_mono g1836 (by decide))
  have fQ1842 : FQ g [3, 4, 5, 6, 7, 8, 9] I I1833 := FQ_tr fQ1829 (FQ_mono g1837 (by decide))
  obtain ⟨w1843, ew1843⟩ : ∃ w : Int32, I1833 (ad g 0) 3 = w := ⟨_, rfl⟩
  obtain ⟨w1844, ew1844⟩ : ∃ w : Int32, I1833 (ad g 0) 7 = w := ⟨_, rfl⟩
  obtain ⟨w1845, ew1845⟩ : ∃ w : Int32, I1833 (ad g 0) 8 = w := ⟨_, rfl⟩
  obtain ⟨w1846, ew1846⟩ : ∃ w : Int32, I1833 (ad g 0) 9 = w := ⟨_, rfl⟩
  try simp only [ew1843, ew1844, ew1845, ew1846, e1838, e1839, ew1810, ew1811, ew1812, ew1813, ew1814, ew1815] at p1831
  refine WQ_if_ne 21 dX11_readWants_16 rfl (fun c1846 => ?_) (fun c1846 => ?_)
  · obtain ⟨-, kz, lb2, ub2, gt2, hT2, hC2, nz⟩ := Or.resolve_left p1831 (by rintro ⟨z, -⟩; omega)
    clear p1831
    have hR2 := RTM_fr hy hR1 g1835 g1836 g1837 (by decide) (by decide) (by decide)
    have nf2 := NOF_tr nf1 nz
    have hq2 := (tT_le B hq1).2
    clear nz
    obtain ⟨P1, hPa1, hPb1, k1⟩ : ∃ P9 : Nat → Int, P9 0 = fnS S (tW B n (tT B n p)) ∧ (∀ j, j ≠ 0 → P9 j = (fun _ => 0) j) ∧ prt B n 6 0 115 (tT B n p) S (fun _ => 0) = .ok (S, P9) := ⟨fun j => if j = 0 then fnS S (tW B n (tT B n p)) else (fun _ => 0) j, if_pos rfl, fun j hj => if_neg hj, kz⟩
    have E1 := clu_go E0 (by decide) rfl k1
    clear kz
    refine WP_aload_n dX11_readWants_21 rfl ?_
    refine WQ_getim dX11_readWants_22 fX11_56 rfl (ly_is hy 0 11 rfl) ew1844 ?_
    refine WP_istore_n (ls' := [(0, _), (1, _)]) dX11_readWants_25 (by decide) rfl ?_
    refine WP_aload_n dX11_readWants_26 rfl ?_
    refine WP_aload_n dX11_readWants_27 rfl ?_
    refine WP_getr dX11_readWants_28 fX11_129 rfl (ly_is hy 0 11 rfl) (rf hr 0 23 5 (by decide)) ?_
    refine WP_aload_n dX11_readWants_31 rfl ?_
    refine WQ_getim dX11_readWants_32 fX11_126 rfl (ly_is hy 0 11 rfl) e1839 ?_
    refine WP_callV2 (k := 11) dX11_readWants_35 ⟨⟨⟨by decide, by decide⟩, zX11_known⟩, lX11_147, by decide, rfl, vX11_known.1, vX11_known.2⟩ (ly_is hy 0 11 rfl) (em_knownb hy hr _  (c := 6) (i := 1) (S := S) (P := P1) hT2 hC2 hn hB hq2 hR2.2.2.2.2.2.2.2 hSB (by have z := hR2.1.2.1; simp only [e1839] at z; exact z)) (Nat.le_of_ble_eq_true rfl) ?_
    intro r I1850 J1851 Ra hq
    obtain ⟨ec, g1852, g1853, g1854, v1849, er, p1848⟩ := hq
    rw [ec, er]
    clear ec er Ra r
    have e1855 : I1850 (ad g 0) 15 = w1814 := by rw [g1854 15 (by decide)]; exact e1838
    have e1856 : I1850 (ad g 0) 16 = w1815 := by rw [g1854 16 (by decide)]; exact e1839
    have fI1857 : FC g [0, 30, 31, 32] I I1850 := FC_tr fI1840 (FC_mono g1852 (by decide))
    have fJ1858 : FC g [] J J1851 := FC_tr fJ1841 (FC_mono g1853 (by decide))
    have fQ1859 : FQ g [3, 4, 5, 6, 7, 8, 9] I I1850 := FQ_tr fQ1842 (FQ_mono g1854 (by decide))
    obtain ⟨w1860, ew1860⟩ : ∃ w : Int32, I1850 (ad g 0) 3 = w := ⟨_, rfl⟩
    obtain ⟨w1861, ew1861⟩ : ∃ w : Int32, I1850 (ad g 0) 7 = w := ⟨_, rfl⟩
    obtain ⟨w1862, ew1862⟩ : ∃ w : Int32, I1850 (ad g 0) 8 = w := ⟨_, rfl⟩
    obtain ⟨w1863, ew1863⟩ : ∃ w : Int32, I1850 (ad g 0) 9 = w := ⟨_, rfl⟩
    try simp only [ew1860, ew1861, ew1862, ew1863, e1855, e1856, ew1810, ew1811, ew1812, ew1813, ew1814, ew1815] at p1848
    refine WQ_if_ne 43 dX11_readWants_38 rfl (fun c1863 => ?_) (fun c1863 => ?_)
    · obtain ⟨-, kz, lb3, ub3, gt3, hT3, hC3, nz⟩ := Or.resolve_left p1848 (by rintro ⟨z, -⟩; omega)
      clear p1848
      have hR3 := RTM_fr hy hR2 g1852 g1853 g1854 (by decide) (by decide) (by decide)
      have nf3 := NOF_tr nf2 nz
      have hq3 := (tT_le B hq2).2
      clear nz
      obtain ⟨P2, hPa2, hPb2, k2⟩ : ∃ P9 : Nat → Int, P9 1 = fnT S (tW B n (tT B n (tT B n p))) ∧ (∀ j, j ≠ 1 → P9 j = P1 j) ∧ prt B n 6 1 116 (tT B n (tT B n p)) S P1 = .ok (S, P9) := ⟨fun j => if j = 1 then fnT S (tW B n (tT B n (tT B n p))) else P1 j, if_pos rfl, fun j hj => if_neg hj, kz⟩
      have E2 := clu_go E1 (by decide) rfl k2
      clear kz
      refine WP_aload_n dX11_readWants_43 rfl ?_
      refine WQ_getim dX11_readWants_44 fX11_56 rfl (ly_is hy 0 11 rfl) ew1861 ?_
      refine WP_istore_n (ls' := [(0, _), (1, _), (2, _)]) dX11_readWants_47 (by decide) rfl ?_
      refine WP_aload_n dX11_readWants_48 rfl ?_
      refine WQ_iconst (0) (0) dX11_readWants_49 rfl rfl (fun v1865 hv1865 => ?_)
      refine WQ_bipush (6) (6) dX11_readWants_50 rfl rfl (fun v1866 hv1866 => ?_)
      refine WP_callV2 (k := 11) dX11_readWants_52 ⟨⟨⟨by decide, by decide⟩, zX11_peek⟩, lX11_59, by decide, rfl, vX11_peek.1, vX11_peek.2⟩ (ly_is hy 0 11 rfl) (em_peekD hy hr _ _  (c := 6) (i := 2) (S := S) (P := P2) hT3 hC3 hn hB hq3 (by omega) (by omega)) (Nat.le_of_ble_eq_true rfl) ?_
      intro r I1869 J1870 Ra hq
      obtain ⟨ec, g1871, g1872, g1873, v1868, er, p1867⟩ := hq
      rw [ec, er]
      clear ec er Ra r
      have e1874 : I1869 (ad g 0) 15 = w1814 := by rw [g1873 15 (by decide)]; exact e1855
      have e1875 : I1869 (ad g 0) 16 = w1815 := by rw [g1873 16 (by decide)]; exact e1856
      have e1876 : I1869 (ad g 0) 3 = w1860 := by rw [g1873 3 (by decide)]; exact ew1860
      have fI1877 : FC g [0, 30, 31, 32] I I1869 := FC_tr fI1857 (FC_mono g1871 (by decide))
      have fJ1878 : FC g [] J J1870 := FC_tr fJ1858 (FC_mono g1872 (by decide))
      have fQ1879 : FQ g [3, 4, 5, 6, 7, 8, 9] I I1869 := FQ_tr fQ1859 (FQ_mono g1873 (by decide))
      obtain ⟨w1880, ew1880⟩ : ∃ w : Int32, I1869 (ad g 0) 7 = w := ⟨_, rfl⟩
      obtain ⟨w1881, ew1881⟩ : ∃ w : Int32, I1869 (ad g 0) 8 = w := ⟨_, rfl⟩
      obtain ⟨w1882, ew1882⟩ : ∃ w : Int32, I1869 (ad g 0) 9 = w := ⟨_, rfl⟩
      try simp only [e1876, ew1880, ew1881, ew1882, e1874, e1875, ew1810, ew1811, ew1812, ew1813, ew1814, ew1815] at p1867
      refine WQ_if_ne 60 dX11_readWants_55 rfl (fun c1882 => ?_) (fun c1882 => ?_)
      · obtain ⟨-, tk4, lb4, ub4, gt4, nz⟩ := Or.resolve_left p1867 (by rintro ⟨z, -⟩; omega)
        clear p1867
        have hR4 := RTM_fr hy hR3 g1871 g1872 g1873 (by decide) (by decide) (by decide)
        have nf4 := NOF_tr nf3 nz
        have hT4 := tpm_fq hy hT3 g1871 (by decide) g1873 (by decide)
        have hC4 := cum_fq hC3 g1873 (by decide)
        clear nz
        refine WQ_bipush (7) (7) dX11_readWants_60 rfl rfl (fun v1884 hv1884 => ?_)
        refine WP_iload_n dX11_readWants_62 rfl ?_
        refine WQ_imulK (7) dX11_readWants_63 hv1884 (by omega) (by omega) (fun v1885 hv1885 => ?_)
        refine WP_aload_n dX11_readWants_64 rfl ?_
        refine WQ_getim dX11_readWants_65 fX11_56 rfl (ly_is hy 0 11 rfl) ew1880 ?_
        refine WQ_iadd dX11_readWants_68 (by omega) (by omega) (fun v1886 hv1886 => ?_)
        refine WP_istore_n (ls' := [(0, _), (1, _), (2, _), (3, _)]) dX11_readWants_69 (by decide) rfl ?_
        refine WP_aload_n dX11_readWants_70 rfl ?_
        refine WP_getr dX11_readWants_71 fX11_117 rfl (ly_is hy 0 11 rfl) (rf hr 0 48 30 (by decide)) ?_
        refine WP_iload_n dX11_readWants_74 rfl ?_
        refine WE_ia dX11_readWants_75 (ly_is hy 30 13 rfl) (ly_n hy 30 28 rfl) (by omega) (by omega) (fun v1887 ev1887 => ?_)
        have hrow : v1887.toInt = S.1 7 ((fnS S (tW B n (tT B n p))).toNat * 7 + (tV B n (tT B n (tT B n (tT B n p)))).toNat) := by
          rw [← ev1887, show v1886.toInt.toNat = ((fnS S (tW B n (tT B n p))).toNat * 7 + (tV B n (tT B n (tT B n (tT B n p)))).toNat) by omega]
          exact hR4.2.2.2.1 (30, 7, 7) (by decide) ((fnS S (tW B n (tT B n p))).toNat * 7 + (tV B n (tT B n (tT B n (tT B n p)))).toNat) (by show (((((fnS S (tW B n (tT B n p))).toNat * 7 + (tV B n (tT B n (tT B n (tT B n p)))).toNat)) : Nat) : Int) < ((7 : Nat) : Int) * S.1 0 1; omega)
        have hmk := hPI.2.2.2.2.2.1 (fnS S (tW B n (tT B n p))).toNat (tV B n (tT B n (tT B n (tT B n p)))).toNat (by omega) (by omega)
        refine WQ_iconst (-1) (-1) dX11_readWants_76 rfl rfl (fun v1888 hv1888 => ?_)
        refine WQ_icmp_eq 86 dX11_readWants_77 rfl (fun c1888 => ?_) (fun c1888 => ?_)
        · obtain ⟨P3, hPa3, hPb3, k3⟩ : ∃ P9 : Nat → Int, P9 2 = tV B n (tT B n (tT B n (tT B n p))) ∧ (∀ j, j ≠ 2 → P9 j = P2 j) ∧ prt B n 6 2 68 (tT B n (tT B n (tT B n p))) S P2 = .ok (S, P9) := ⟨fun j => if j = 2 then tV B n (tT B n (tT B n (tT B n p))) else P2 j, if_pos rfl, fun j hj => if_neg hj, prt_D (r := 24 + (fnS S (tW B n (tT B n p))).toNat) tk4 lb4 ub4 (by rw [if_neg (by decide), hPb2 0 (by decide), hPa1]) (by rw [← Bool.not_eq_true]; intro z; exact absurd (hmk.mp z) (by omega))⟩
          have E3 := clu_go E2 (by decide) rfl k3
          have hR5 := RTM_b hSB hR4 (24 + (fnS S (tW B n (tT B n p))).toNat) (tV B n (tT B n (tT B n (tT B n p)))).toNat (by omega)
          refine WP_aload_n dX11_readWants_86 rfl ?_
          refine WP_callV0 (k := 11) dX11_readWants_87 ⟨⟨⟨by decide, by decide⟩, zX11_scan⟩, lX11_63, by decide, rfl, vX11_scan.1, vX11_scan.2⟩ (ly_is hy 0 11 rfl) (em_scan hy hr   hT4 hn hB hC4.2.1 (tT_le B hq3).2) (Nat.le_of_ble_eq_true rfl) ?_
          intro r I1891 J1892 Ra hq
          obtain ⟨ec, g1893, g1894, g1895, er, p1890⟩ := hq
          rw [ec, er]
          clear ec er Ra r
          have e1896 : I1891 (ad g 0) 15 = w1814 := by rw [g1895 15 (by decide)]; exact e1874
          have e1897 : I1891 (ad g 0) 16 = w1815 := by rw [g1895 16 (by decide)]; exact e1875
          have e1898 : I1891 (ad g 0) 7 = w1880 := by rw [g1895 7 (by decide)]; exact ew1880
          have e1899 : I1891 (ad g 0) 8 = w1881 := by rw [g1895 8 (by decide)]; exact ew1881
          have e1900 : I1891 (ad g 0) 9 = w1882 := by rw [g1895 9 (by decide)]; exact ew1882
          have e1901 : I1891 (ad g 30) v1886.toInt.toNat = v1887 := by rw [FC_at hy g1893 30 (by decide) (by decide)]; exact ev1887
          have fI1902 : FC g [0, 30, 31, 32] I I1891 := FC_tr fI1877 (FC_mono g1893 (by decide))
          have fJ1903 : FC g [] J J1892 := FC_tr fJ1878 (FC_mono g1894 (by decide))
          have fQ1904 : FQ g [3, 4, 5, 6, 7, 8, 9] I I1891 := FQ_tr fQ1879 (FQ_mono g1895 (by decide))
          obtain ⟨w1905, ew1905⟩ : ∃ w : Int32, I1891 (ad g 0) 3 = w := ⟨_, rfl⟩
          try simp only [ew1905, e1898, e1899, e1900, e1896, e1897, ew1810, ew1811, ew1812, ew1813, ew1814, ew1815] at p1890
          obtain ⟨hT6, hC6⟩ := p1890
          have hR6 := RTM_fr hy hR5 g1893 g1894 g1895 (by decide) (by decide) (by decide)
          have nf6 := NOF_tr nf4 (NOF_fq g1895 (by decide))
          have hq6 := (tT_le B hq3).2
          refine WP_aload_n dX11_readWants_90 rfl ?_
          refine WQ_iconst (1) (1) dX11_readWants_91 rfl rfl (fun v1906 hv1906 => ?_)
          refine WQ_iconst (3) (3) dX11_readWants_92 rfl rfl (fun v1907 hv1907 => ?_)
          refine WP_callV2 (k := 11) dX11_readWants_93 ⟨⟨⟨by decide, by decide⟩, zX11_number⟩, lX11_81, by decide, rfl, vX11_number.1, vX11_number.2⟩ (ly_is hy 0 11 rfl) (em_num hy hr _ _  (c := 6) (i := 3) (ch := 85) (S := S) (P := P3) hT6 hC6 hn hB hq6 (by decide) (by decide) (by rw [show loB 85 = 1 from rfl]; omega) (by rw [show hiB 85 = 3 from rfl]; omega)) (Nat.le_of_ble_eq_true rfl) ?_
          intro r I1910 J1911 Ra hq
          obtain ⟨ec, g1912, g1913, g1914, v1909, er, p1908⟩ := hq
          rw [ec, er]
          clear ec er Ra r
          have e1915 : I1910 (ad g 0) 15 = w1814 := by rw [g1914 15 (by decide)]; exact e1896
          have e1916 : I1910 (ad g 0) 16 = w1815 := by rw [g1914 16 (by decide)]; exact e1897
          have e1917 : I1910 (ad g 30) v1886.toInt.toNat = v1887 := by rw [FC_at hy g1912 30 (by decide) (by decide)]; exact e1901
          have fI1918 : FC g [0, 30, 31, 32] I I1910 := FC_tr fI1902 (FC_mono g1912 (by decide))
          have fJ1919 : FC g [] J J1911 := FC_tr fJ1903 (FC_mono g1913 (by decide))
          have fQ1920 : FQ g [3, 4, 5, 6, 7, 8, 9] I I1910 := FQ_tr fQ1904 (FQ_mono g1914 (by decide))
          obtain ⟨w1921, ew1921⟩ : ∃ w : Int32, I1910 (ad g 0) 3 = w := ⟨_, rfl⟩
          obtain ⟨w1922, ew1922⟩ : ∃ w : Int32, I1910 (ad g 0) 7 = w := ⟨_, rfl⟩
          obtain ⟨w1923, ew1923⟩ : ∃ w : Int32, I1910 (ad g 0) 8 = w := ⟨_, rfl⟩
          obtain ⟨w1924, ew1924⟩ : ∃ w : Int32, I1910 (ad g 0) 9 = w := ⟨_, rfl⟩
          try simp only [ew1921, ew1922, ew1923, ew1924, e1915, e1916, ew1810, ew1811, ew1812, ew1813, ew1814, ew1815] at p1908
          refine WQ_if_ne 101 dX11_readWants_96 rfl (fun c1924 => ?_) (fun c1924 => ?_)
          · obtain ⟨-, kz, lb7, ub7, gt7, hT7, hC7, nz⟩ := Or.resolve_left p1908 (by rintro ⟨z, -⟩; omega)
            clear p1908
            have hR7 := RTM_fr hy hR6 g1912 g1913 g1914 (by decide) (by decide) (by decide)
            have nf7 := NOF_tr nf6 nz
            have hq7 := (tT_le B hq6).2
            clear nz
            obtain ⟨P4, hPa4, hPb4, k4⟩ : ∃ P9 : Nat → Int, P9 3 = tV B n (tT B n (tT B n (tT B n (tT B n p)))) ∧ (∀ j, j ≠ 3 → P9 j = P3 j) ∧ prt B n 6 3 85 (tT B n (tT B n (tT B n (tT B n p)))) S P3 = .ok (S, P9) := ⟨fun j => if j = 3 then tV B n (tT B n (tT B n (tT B n (tT B n p)))) else P3 j, if_pos rfl, fun j hj => if_neg hj, kz⟩
            have E4 := clu_go E3 (by decide) rfl k4
            clear kz
            refine WP_aload_n dX11_readWants_101 rfl ?_
            refine WP_getr dX11_readWants_102 fX11_120 rfl (ly_is hy 0 11 rfl) (rf hr 0 49 31 (by decide)) ?_
            refine WP_iload_n dX11_readWants_105 rfl ?_
            refine WP_aload_n dX11_readWants_106 rfl ?_
            refine WQ_getim dX11_readWants_107 fX11_56 rfl (ly_is hy 0 11 rfl) ew1922 ?_
            refine WE_is dX11_readWants_110 (ly_is hy 31 13 rfl) (ly_n hy 31 28 rfl) (by omega) (by omega) (fun I1926 eI1926 => ?_)
            have e1927 : I1926 (ad g 0) 15 = w1814 := by rw [eI1926, pp_ne _ _ (Or.inl (ly_ne hy (by decide) (by decide) (by decide)))]; exact e1915
            have e1928 : I1926 (ad g 0) 16 = w1815 := by rw [eI1926, pp_ne _ _ (Or.inl (ly_ne hy (by decide) (by decide) (by decide)))]; exact e1916
            have e1929 : I1926 (ad g 30) v1886.toInt.toNat = v1887 := by rw [eI1926, pp_ne _ _ (Or.inl (ly_ne hy (by decide) (by decide) (by decide)))]; exact e1917
            have e1930 : I1926 (ad g 0) 3 = w1921 := by rw [eI1926, pp_ne _ _ (Or.inl (ly_ne hy (by decide) (by decide) (by decide)))]; exact ew1921
            have e1931 : I1926 (ad g 0) 7 = w1922 := by rw [eI1926, pp_ne _ _ (Or.inl (ly_ne hy (by decide) (by decide) (by decide)))]; exact ew1922
            have e1932 : I1926 (ad g 0) 8 = w1923 := by rw [eI1926, pp_ne _ _ (Or.inl (ly_ne hy (by decide) (by decide) (by decide)))]; exact ew1923
            have e1933 : I1926 (ad g 0) 9 = w1924 := by rw [eI1926, pp_ne _ _ (Or.inl (ly_ne hy (by decide) (by decide) (by decide)))]; exact ew1924
            have fI1934 : FC g [0, 30, 31, 32] I I1926 := by rw [eI1926]; exact FC_pp fI1918 (by decide)
            have fQ1935 : FQ g [3, 4, 5, 6, 7, 8, 9] I I1926 := by rw [eI1926]; exact FQ_ppn (ly_ne hy (by decide) (by decide) (by decide)) fQ1920
            have hR8 : RTM g (pp S.1 8 ((fnS S (tW B n (tT B n p))).toNat * 7 + (tV B n (tT B n (tT B n (tT B n p)))).toNat) (tV B n (tT B n (tT B n (tT B n (tT B n p))))), pp S.2 (24 + (fnS S (tW B n (tT B n p))).toNat) (tV B n (tT B n (tT B n (tT B n p)))).toNat true) I1926 J1911 := by
              rw [eI1926, show v1886.toInt.toNat = ((fnS S (tW B n (tT B n p))).toNat * 7 + (tV B n (tT B n (tT B n (tT B n p)))).toNat) by omega]
              exact RTM_rs hy hR7 (31, 8, 7) (by decide) _ _ _ (by omega)
            have hT8 : TPM g B n I1926 := by rw [eI1926]; exact tpm_pp hy hT7 (by decide)
            have hC8 : CUM g B n (tT B n (tT B n (tT B n (tT B n (tT B n p))))) I1926 := by rw [eI1926]; exact cum_pp hy hC7 (by decide)
            have nf8 : NOF g I I1926 := by rw [eI1926]; exact NOF_tr nf7 (NOF_pp hy (by decide))
            refine WP_aload_n dX11_readWants_111 rfl ?_
            refine WQ_iconst (0) (0) dX11_readWants_112 rfl rfl (fun v1936 hv1936 => ?_)
            refine WQ_bipush (99) (99) dX11_readWants_113 rfl rfl (fun v1937 hv1937 => ?_)
            refine WP_callV2 (k := 11) dX11_readWants_115 ⟨⟨⟨by decide, by decide⟩, zX11_number⟩, lX11_81, by decide, rfl, vX11_number.1, vX11_number.2⟩ (ly_is hy 0 11 rfl) (em_num hy hr _ _  (c := 6) (i := 4) (ch := 86) (S := S) (P := P4) hT8 hC8 hn hB hq7 (by decide) (by decide) (by rw [show loB 86 = 0 from rfl]; omega) (by rw [show hiB 86 = 99 from rfl]; omega)) (Nat.le_of_ble_eq_true rfl) ?_
            intro r I1940 J1941 Ra hq
            obtain ⟨ec, g1942, g1943, g1944, v1939, er, p1938⟩ := hq
            rw [ec, er]
            clear ec er Ra r
            have e1945 : I1940 (ad g 0) 15 = w1814 := by rw [g1944 15 (by decide)]; exact e1927
            have e1946 : I1940 (ad g 0) 16 = w1815 := by rw [g1944 16 (by decide)]; exact e1928
            have e1947 : I1940 (ad g 30) v1886.toInt.toNat = v1887 := by rw [FC_at hy g1942 30 (by decide) (by decide)]; exact e1929
            have fI1948 : FC g [0, 30, 31, 32] I I1940 := FC_tr fI1934 (FC_mono g1942 (by decide))
            have fJ1949 : FC g [] J J1941 := FC_tr fJ1919 (FC_mono g1943 (by decide))
            have fQ1950 : FQ g [3, 4, 5, 6, 7, 8, 9] I I1940 := FQ_tr fQ1935 (FQ_mono g1944 (by decide))
            obtain ⟨w1951, ew1951⟩ : ∃ w : Int32, I1940 (ad g 0) 3 = w := ⟨_, rfl⟩
            obtain ⟨w1952, ew1952⟩ : ∃ w : Int32, I1940 (ad g 0) 7 = w := ⟨_, rfl⟩
            obtain ⟨w1953, ew1953⟩ : ∃ w : Int32, I1940 (ad g 0) 8 = w := ⟨_, rfl⟩
            obtain ⟨w1954, ew1954⟩ : ∃ w : Int32, I1940 (ad g 0) 9 = w := ⟨_, rfl⟩
            try simp only [ew1951, ew1952, ew1953, ew1954, e1945, e1946, ew1810, ew1811, ew1812, ew1813, ew1814, ew1815] at p1938
            refine WQ_if_ne 123 dX11_readWants_118 rfl (fun c1954 => ?_) (fun c1954 => ?_)
            · obtain ⟨-, kz, lb9, ub9, gt9, hT9, hC9, nz⟩ := Or.resolve_left p1938 (by rintro ⟨z, -⟩; omega)
              clear p1938
              have hR9 := RTM_fr hy hR8 g1942 g1943 g1944 (by decide) (by decide) (by decide)
              have nf9 := NOF_tr nf8 nz
              have hq9 := (tT_le B hq7).2
              clear nz
              obtain ⟨P5, hPa5, hPb5, k5⟩ : ∃ P9 : Nat → Int, P9 4 = tV B n (tT B n (tT B n (tT B n (tT B n (tT B n p))))) ∧ (∀ j, j ≠ 4 → P9 j = P4 j) ∧ prt B n 6 4 86 (tT B n (tT B n (tT B n (tT B n (tT B n p))))) S P4 = .ok (S, P9) := ⟨fun j => if j = 4 then tV B n (tT B n (tT B n (tT B n (tT B n (tT B n p))))) else P4 j, if_pos rfl, fun j hj => if_neg hj, kz⟩
              have E5 := clu_go E4 (by decide) rfl k5
              clear kz
              refine WP_aload_n dX11_readWants_123 rfl ?_
              refine WP_getr dX11_readWants_124 fX11_123 rfl (ly_is hy 0 11 rfl) (rf hr 0 50 32 (by decide)) ?_
              refine WP_iload_n dX11_readWants_127 rfl ?_
              refine WP_aload_n dX11_readWants_128 rfl ?_
              refine WQ_getim dX11_readWants_129 fX11_56 rfl (ly_is hy 0 11 rfl) ew1952 ?_
              refine WE_is dX11_readWants_132 (ly_is hy 32 13 rfl) (ly_n hy 32 28 rfl) (by omega) (by omega) (fun I1956 eI1956 => ?_)
              have e1957 : I1956 (ad g 0) 15 = w1814 := by rw [eI1956, pp_ne _ _ (Or.inl (ly_ne hy (by decide) (by decide) (by decide)))]; exact e1945
              have e1958 : I1956 (ad g 0) 16 = w1815 := by rw [eI1956, pp_ne _ _ (Or.inl (ly_ne hy (by decide) (by decide) (by decide)))]; exact e1946
              have e1959 : I1956 (ad g 30) v1886.toInt.toNat = v1887 := by rw [eI1956, pp_ne _ _ (Or.inl (ly_ne hy (by decide) (by decide) (by decide)))]; exact e1947
              have e1960 : I1956 (ad g 0) 3 = w1951 := by rw [eI1956, pp_ne _ _ (Or.inl (ly_ne hy (by decide) (by decide) (by decide)))]; exact ew1951
              have e1961 : I1956 (ad g 0) 7 = w1952 := by rw [eI1956, pp_ne _ _ (Or.inl (ly_ne hy (by decide) (by decide) (by decide)))]; exact ew1952
              have e1962 : I1956 (ad g 0) 8 = w1953 := by rw [eI1956, pp_ne _ _ (Or.inl (ly_ne hy (by decide) (by decide) (by decide)))]; exact ew1953
              have e1963 : I1956 (ad g 0) 9 = w1954 := by rw [eI1956, pp_ne _ _ (Or.inl (ly_ne hy (by decide) (by decide) (by decide)))]; exact ew1954
              have fI1964 : FC g [0, 30, 31, 32] I I1956 := by rw [eI1956]; exact FC_pp fI1948 (by decide)
              have fQ1965 : FQ g [3, 4, 5, 6, 7, 8, 9] I I1956 := by rw [eI1956]; exact FQ_ppn (ly_ne hy (by decide) (by decide) (by decide)) fQ1950
              have hR10 : RTM g (pp (pp S.1 8 ((fnS S (tW B n (tT B n p))).toNat * 7 + (tV B n (tT B n (tT B n (tT B n p)))).toNat) (tV B n (tT B n (tT B n (tT B n (tT B n p)))))) 9 ((fnS S (tW B n (tT B n p))).toNat * 7 + (tV B n (tT B n (tT B n (tT B n p)))).toNat) (tV B n (tT B n (tT B n (tT B n (tT B n (tT B n p)))))), pp S.2 (24 + (fnS S (tW B n (tT B n p))).toNat) (tV B n (tT B n (tT B n (tT B n p)))).toNat true) I1956 J1941 := by
                rw [eI1956, show v1886.toInt.toNat = ((fnS S (tW B n (tT B n p))).toNat * 7 + (tV B n (tT B n (tT B n (tT B n p)))).toNat) by omega]
                exact RTM_rs hy hR9 (32, 9, 7) (by decide) _ _ _ (by omega)
              have hT10 : TPM g B n I1956 := by rw [eI1956]; exact tpm_pp hy hT9 (by decide)
              have hC10 : CUM g B n (tT B n (tT B n (tT B n (tT B n (tT B n (tT B n p)))))) I1956 := by rw [eI1956]; exact cum_pp hy hC9 (by decide)
              have nf10 : NOF g I I1956 := by rw [eI1956]; exact NOF_tr nf9 (NOF_pp hy (by decide))
              refine WP_aload_n dX11_readWants_133 rfl ?_
              refine WP_getr dX11_readWants_134 fX11_117 rfl (ly_is hy 0 11 rfl) (rf hr 0 48 30 (by decide)) ?_
              refine WP_iload_n dX11_readWants_137 rfl ?_
              refine WP_iload_n dX11_readWants_138 rfl ?_
              refine WE_is dX11_readWants_139 (ly_is hy 30 13 rfl) (ly_n hy 30 28 rfl) (by omega) (by omega) (fun I1966 eI1966 => ?_)
              have e1967 : I1966 (ad g 0) 15 = w1814 := by rw [eI1966, pp_ne _ _ (Or.inl (ly_ne hy (by decide) (by decide) (by decide)))]; exact e1957
              have e1968 : I1966 (ad g 0) 16 = w1815 := by rw [eI1966, pp_ne _ _ (Or.inl (ly_ne hy (by decide) (by decide) (by decide)))]; exact e1958
              have e1969 : I1966 (ad g 0) 3 = w1951 := by rw [eI1966, pp_ne _ _ (Or.inl (ly_ne hy (by decide) (by decide) (by decide)))]; exact e1960
              have e1970 : I1966 (ad g 0) 7 = w1952 := by rw [eI1966, pp_ne _ _ (Or.inl (ly_ne hy (by decide) (by decide) (by decide)))]; exact e1961
              have e1971 : I1966 (ad g 0) 8 = w1953 := by rw [eI1966, pp_ne _ _ (Or.inl (ly_ne hy (by decide) (by decide) (by decide)))]; exact e1962
              have e1972 : I1966 (ad g 0) 9 = w1954 := by rw [eI1966, pp_ne _ _ (Or.inl (ly_ne hy (by decide) (by decide) (by decide)))]; exact e1963
              have fI1973 : FC g [0, 30, 31, 32] I I1966 := by rw [eI1966]; exact FC_pp fI1964 (by decide)
              have fQ1974 : FQ g [3, 4, 5, 6, 7, 8, 9] I I1966 := by rw [eI1966]; exact FQ_ppn (ly_ne hy (by decide) (by decide) (by decide)) fQ1965
              have hR11 : RTM g (pp (pp (pp S.1 8 ((fnS S (tW B n (tT B n p))).toNat * 7 + (tV B n (tT B n (tT B n (tT B n p)))).toNat) (tV B n (tT B n (tT B n (tT B n (tT B n p)))))) 9 ((fnS S (tW B n (tT B n p))).toNat * 7 + (tV B n (tT B n (tT B n (tT B n p)))).toNat) (tV B n (tT B n (tT B n (tT B n (tT B n (tT B n p))))))) 7 ((fnS S (tW B n (tT B n p))).toNat * 7 + (tV B n (tT B n (tT B n (tT B n p)))).toNat) (fnT S (tW B n (tT B n (tT B n p)))), pp S.2 (24 + (fnS S (tW B n (tT B n p))).toNat) (tV B n (tT B n (tT B n (tT B n p)))).toNat true) I1966 J1941 := by
                rw [eI1966, show v1886.toInt.toNat = ((fnS S (tW B n (tT B n p))).toNat * 7 + (tV B n (tT B n (tT B n (tT B n p)))).toNat) by omega]
                exact RTM_rs hy hR10 (30, 7, 7) (by decide) _ _ _ (by omega)
              have hT11 : TPM g B n I1966 := by rw [eI1966]; exact tpm_pp hy hT10 (by decide)
              have hC11 : CUM g B n (tT B n (tT B n (tT B n (tT B n (tT B n (tT B n p)))))) I1966 := by rw [eI1966]; exact cum_pp hy hC10 (by decide)
              have nf11 : NOF g I I1966 := by rw [eI1966]; exact NOF_tr nf10 (NOF_pp hy (by decide))
              refine WQ_iconst (1) (1) dX11_readWants_140 rfl rfl (fun v1975 hv1975 => ?_)
              exact WP_zret dX11_readWants_141 rfl (nar_z (by omega)) ⟨rfl, fI1973, fJ1949, fQ1974, v1975, rfl, by
                try simp only [e1967, e1968, e1969, e1970, e1971, e1972, ew1810, ew1811, ew1812, ew1813, ew1814, ew1815]
                refine Or.inr ⟨by omega, S, P5, (tT B n (tT B n (tT B n (tT B n (tT B n (tT B n p)))))), clu_ok ha E5, ?_, hT11, hC11, nf11⟩
                show RTM g (pp (pp (pp (pp S.1 0 0 (S.1 0 0 + 1)) 7 ((P5 0).toNat * 7 + (P5 2).toNat) (P5 1)) 8 ((P5 0).toNat * 7 + (P5 2).toNat) (P5 3)) 9 ((P5 0).toNat * 7 + (P5 2).toNat) (P5 4), pp S.2 (24 + (P5 0).toNat) (P5 2).toNat true) _ _
                rw [hPa5, hPb5 0 (by decide), hPb5 1 (by decide), hPb5 2 (by decide), hPb5 3 (by decide), hPa4, hPb4 0 (by decide), hPb4 1 (by decide), hPb4 2 (by decide), hPa3, hPb3 0 (by decide), hPb3 1 (by decide), hPa2, hPb2 0 (by decide), hPa1, pp_comm (a := 0) (b := 7) (Or.inl (by decide)), pp_comm (a := 0) (b := 8) (Or.inl (by decide)), pp_comm (a := 0) (b := 9) (Or.inl (by decide)), pp_comm (a := 7) (b := 8) (Or.inl (by decide)), pp_comm (a := 7) (b := 9) (Or.inl (by decide))]
                exact RTM_cnt _ hR11⟩
            · refine WQ_iconst (0) (0) dX11_readWants_121 rfl rfl (fun v1976 hv1976 => ?_)
              exact WP_zret dX11_readWants_122 rfl (nar_z (by omega)) ⟨rfl, fI1948, fJ1949, fQ1950, v1976, rfl, by
                try simp only [e1945, e1946, ew1951, ew1952, ew1953, ew1954, ew1810, ew1811, ew1812, ew1813, ew1814, ew1815]
                rcases p1938 with ⟨-, e⟩ | ⟨z, -⟩
                · exact Or.inl ⟨by omega, ERR_to e (fun er h => clu_er ha E4 (by decide) rfl h)⟩
                · exact absurd z (by omega)⟩
          · refine WQ_iconst (0) (0) dX11_readWants_99 rfl rfl (fun v1977 hv1977 => ?_)
            exact WP_zret dX11_readWants_100 rfl (nar_z (by omega)) ⟨rfl, fI1918, fJ1919, fQ1920, v1977, rfl, by
              try simp only [e1915, e1916, ew1921, ew1922, ew1923, ew1924, ew1810, ew1811, ew1812, ew1813, ew1814, ew1815]
              rcases p1908 with ⟨-, e⟩ | ⟨z, -⟩
              · exact Or.inl ⟨by omega, ERR_to e (fun er h => clu_er ha E3 (by decide) rfl h)⟩
              · exact absurd z (by omega)⟩
        · have c3z := hC4.1
          try simp only [e1876] at c3z
          refine WP_aload_n dX11_readWants_80 rfl ?_
          refine WQ_iconst (3) (3) dX11_readWants_81 rfl rfl (fun v1978 hv1978 => ?_)
          refine WP_callV1 (k := 11) dX11_readWants_82 ⟨⟨⟨by decide, by decide⟩, zX11_bad⟩, lX11_49, by decide, rfl, vX11_bad.1, vX11_bad.2⟩ (ly_is hy 0 11 rfl) (em_bad hy hr _  ) (Nat.le_of_ble_eq_true rfl) ?_
          intro r I1981 J1982 Ra hq
          obtain ⟨ec, g1983, g1984, g1985, v1980, er, p1979⟩ := hq
          rw [ec, er]
          clear ec er Ra r
          have e1986 : I1981 (ad g 0) 15 = w1814 := by rw [g1985 15 (by decide)]; exact e1874
          have e1987 : I1981 (ad g 0) 16 = w1815 := by rw [g1985 16 (by decide)]; exact e1875
          have e1988 : I1981 (ad g 0) 3 = w1860 := by rw [g1985 3 (by decide)]; exact e1876
          have e1989 : I1981 (ad g 0) 7 = w1880 := by rw [g1985 7 (by decide)]; exact ew1880
          have e1990 : I1981 (ad g 30) v1886.toInt.toNat = v1887 := by rw [FC_at hy g1983 30 (by decide) (by decide)]; exact ev1887
          have fI1991 : FC g [0, 30, 31, 32] I I1981 := FC_tr fI1877 (FC_mono g1983 (by decide))
          have fJ1992 : FC g [] J J1982 := FC_tr fJ1878 (FC_mono g1984 (by decide))
          have fQ1993 : FQ g [3, 4, 5, 6, 7, 8, 9] I I1981 := FQ_tr fQ1879 (FQ_mono g1985 (by decide))
          obtain ⟨w1994, ew1994⟩ : ∃ w : Int32, I1981 (ad g 0) 8 = w := ⟨_, rfl⟩
          obtain ⟨w1995, ew1995⟩ : ∃ w : Int32, I1981 (ad g 0) 9 = w := ⟨_, rfl⟩
          try simp only [e1988, e1989, ew1994, ew1995, e1986, e1987, ew1810, ew1811, ew1812, ew1813, ew1814, ew1815] at p1979
          obtain ⟨z0, z8, z9⟩ := p1979
          try simp only [e1876] at z9
          exact WP_zret dX11_readWants_85 rfl (nar_z (by omega)) ⟨rfl, fI1991, fJ1992, fQ1993, v1980, rfl, by
            try simp only [e1986, e1987, e1988, e1989, ew1994, ew1995, ew1810, ew1811, ew1812, ew1813, ew1814, ew1815]
            refine Or.inl ⟨by omega, 3, tF B n (tT B n (tT B n (tT B n p))), clu_er ha E2 (by decide) rfl (prt_Dx (r := 24 + (fnS S (tW B n (tT B n p))).toNat) tk4 lb4 ub4 (by rw [if_neg (by decide), hPb2 0 (by decide), hPa1]) (hmk.mpr (by omega))), ?_⟩
            unfold ERM
            try simp only [ew1994, ew1995]
            exact ⟨by rw [z8]; omega, by rw [z9]; omega⟩⟩
      · refine WQ_iconst (0) (0) dX11_readWants_58 rfl rfl (fun v1996 hv1996 => ?_)
        exact WP_zret dX11_readWants_59 rfl (nar_z (by omega)) ⟨rfl, fI1877, fJ1878, fQ1879, v1996, rfl, by
          try simp only [e1874, e1875, e1876, ew1880, ew1881, ew1882, ew1810, ew1811, ew1812, ew1813, ew1814, ew1815]
          rcases p1867 with ⟨-, e⟩ | ⟨z, -⟩
          · exact Or.inl ⟨by omega, ERR_to e (fun er h => clu_er ha E2 (by decide) rfl h)⟩
          · exact absurd z (by omega)⟩
    · refine WQ_iconst (0) (0) dX11_readWants_41 rfl rfl (fun v1997 hv1997 => ?_)
      exact WP_zret dX11_readWants_42 rfl (nar_z (by omega)) ⟨rfl, fI1857, fJ1858, fQ1859, v1997, rfl, by
        try simp only [e1855, e1856, ew1860, ew1861, ew1862, ew1863, ew1810, ew1811, ew1812, ew1813, ew1814, ew1815]
        rcases p1848 with ⟨-, e⟩ | ⟨z, -⟩
        · exact Or.inl ⟨by omega, ERR_to e (fun er h => clu_er ha E1 (by decide) rfl h)⟩
        · exact absurd z (by omega)⟩
  · refine WQ_iconst (0) (0) dX11_readWants_19 rfl rfl (fun v1998 hv1998 => ?_)
    exact WP_zret dX11_readWants_20 rfl (nar_z (by omega)) ⟨rfl, fI1840, fJ1841, fQ1842, v1998, rfl, by
      try simp only [e1838, e1839, ew1843, ew1844, ew1845, ew1846, ew1810, ew1811, ew1812, ew1813, ew1814, ew1815]
      rcases p1831 with ⟨-, e⟩ | ⟨z, -⟩
      · exact Or.inl ⟨by omega, ERR_to e (fun er h => clu_er ha E0 (by decide) rfl h)⟩
      · exact absurd z (by omega)⟩
set_option maxHeartbeats 4000000 in
set_option maxRecDepth 100000 in
theorem em_readIlls {g : GG} {I : pI} {J : pJ} {R : pR} (hy : Ly g) (hr : Rf g R) {B : Nat → Int} {n p : Nat} {S : TwS}  (hT : TPM g B n I) (hC : CUM g B n p I) (hn : n ≤ 900) (hB : ∀ q, -128 ≤ B q ∧ B q ≤ 127) (hp : p ≤ n) (hR : RTM g S I J) (hPI : PI S) (hSB : SBn S) : SP g mX11_readIlls [.ref (ad g 0)] I J R (fun r I' J' R' => R' = R ∧ FC g [0, 17] I I' ∧ FC g [] J J' ∧ FQ g [3, 4, 5, 6, 7, 8, 9] I I' ∧ ∃ v : Int32, r = some (.int v) ∧ ((v.toInt = 0 ∧ ERR g (clu B n 7 p S) I') ∨ (v.toInt = 1 ∧ ∃ S2 P2 p2, clu B n 7 p S = .ok (S2, P2, p2) ∧ RTM g (tel 7 P2 S2) I' J' ∧ TPM g B n I' ∧ CUM g B n p2 I' ∧ NOF g I I'))) := by
  refine SP_of ⟨by decide, rfl⟩ (Nat.le_of_ble_eq_true rfl) ?_
  have fI0 : FC g [0, 17] I I := FC_rf
  have fJ0 : FC g [] J J := FC_rf
  have fQ0 : FQ g [3, 4, 5, 6, 7, 8, 9] I I := FQ_rf
  obtain ⟨w1999, ew1999⟩ : ∃ w : Int32, I (ad g 0) 3 = w := ⟨_, rfl⟩
  obtain ⟨w2000, ew2000⟩ : ∃ w : Int32, I (ad g 0) 7 = w := ⟨_, rfl⟩
  obtain ⟨w2001, ew2001⟩ : ∃ w : Int32, I (ad g 0) 8 = w := ⟨_, rfl⟩
  obtain ⟨w2002, ew2002⟩ : ∃ w : Int32, I (ad g 0) 9 = w := ⟨_, rfl⟩
  obtain ⟨w2003, ew2003⟩ : ∃ w : Int32, I (ad g 0) 15 = w := ⟨_, rfl⟩
  obtain ⟨w2004, ew2004⟩ : ∃ w : Int32, I (ad g 0) 5 = w := ⟨_, rfl⟩
  have nf0 : NOF g I I := NOF_rf
  have ha : ahd 7 S = 0 := by
    unfold ahd
    rw [if_neg (by omega), if_neg (by rintro ⟨z, -⟩; omega)]
  have E0 : prts B n 7 (SHP 7) 0 (tT B n p) S (fun _ => 0) = prts B n 7 ((SHP 7).drop 0) 0 (tT B n p) S (fun _ => 0) := rfl
  have hbb := hSB
  unfold SBn at hbb
  refine WP_aload_n dX11_readIlls_0 rfl ?_
  refine WP_callV0 (k := 11) dX11_readIlls_1 ⟨⟨⟨by decide, by decide⟩, zX11_scan⟩, lX11_63, by decide, rfl, vX11_scan.1, vX11_scan.2⟩ (ly_is hy 0 11 rfl) (em_scan hy hr   hT hn hB hC.2.1 (tT_le B hp).2) (Nat.le_of_ble_eq_true rfl) ?_
  intro r I2006 J2007 Ra hq
  obtain ⟨ec, g2008, g2009, g2010, er, p2005⟩ := hq
  rw [ec, er]
  clear ec er Ra r
  have e2011 : I2006 (ad g 0) 7 = w2000 := by rw [g2010 7 (by decide)]; exact ew2000
  have e2012 : I2006 (ad g 0) 8 = w2001 := by rw [g2010 8 (by decide)]; exact ew2001
  have e2013 : I2006 (ad g 0) 9 = w2002 := by rw [g2010 9 (by decide)]; exact ew2002
  have e2014 : I2006 (ad g 0) 15 = w2003 := by rw [g2010 15 (by decide)]; exact ew2003
  have fI2015 : FC g [0, 17] I I2006 := FC_tr fI0 (FC_mono g2008 (by decide))
  have fJ2016 : FC g [] J J2007 := FC_tr fJ0 (FC_mono g2009 (by decide))
  have fQ2017 : FQ g [3, 4, 5, 6, 7, 8, 9] I I2006 := FQ_tr fQ0 (FQ_mono g2010 (by decide))
  obtain ⟨w2018, ew2018⟩ : ∃ w : Int32, I2006 (ad g 0) 3 = w := ⟨_, rfl⟩
  obtain ⟨w2019, ew2019⟩ : ∃ w : Int32, I2006 (ad g 0) 5 = w := ⟨_, rfl⟩
  try simp only [ew2018, e2011, e2012, e2013, e2014, ew2019, ew1999, ew2000, ew2001, ew2002, ew2003, ew2004] at p2005
  obtain ⟨hT1, hC1⟩ := p2005
  have hR1 := RTM_fr hy hR g2008 g2009 g2010 (by decide) (by decide) (by decide)
  have nf1 := NOF_tr nf0 (NOF_fq g2010 (by decide))
  have hq1 := (tT_le B hp).2
  have c3z := hC1.1
  have c5z := hC1.2.2.1
  try simp only [ew2018] at c3z
  try simp only [ew2019] at c5z
  refine WP_aload_n dX11_readIlls_4 rfl ?_
  refine WQ_getim dX11_readIlls_5 fX11_27 rfl (ly_is hy 0 11 rfl) ew2019 ?_
  refine WQ_iconst (1) (1) dX11_readIlls_8 rfl rfl (fun v2020 hv2020 => ?_)
  refine WQ_icmp_eq 18 dX11_readIlls_9 rfl (fun c2020 => ?_) (fun c2020 => ?_)
  · have hk : tK B n (tT B n p) = 1 := by omega
    refine WP_aload_n dX11_readIlls_18 rfl ?_
    refine WP_aload_n dX11_readIlls_19 rfl ?_
    refine WP_getr dX11_readIlls_20 fX11_91 rfl (ly_is hy 0 11 rfl) (rf hr 0 22 4 (by decide)) ?_
    refine WP_aload_n dX11_readIlls_23 rfl ?_
    refine WQ_getim dX11_readIlls_24 fX11_88 rfl (ly_is hy 0 11 rfl) e2014 ?_
    refine WP_callV2 (k := 11) dX11_readIlls_27 ⟨⟨⟨by decide, by decide⟩, zX11_find⟩, lX11_71, by decide, rfl, vX11_find.1, vX11_find.2⟩ (ly_is hy 0 11 rfl) (em_findc hy hr _  (b := 0) (k := (S.1 0 1).toNat) (nm := S.1 14) hT1 hC1 hn hB hq1 hk (by have z := hR1.1.1; simp only [e2014] at z; omega) (by omega) hR1.2.2.2.2.2.2.2.1) (Nat.le_of_ble_eq_true rfl) ?_
    intro r Ia Ja Ra hq
    obtain ⟨⟨ea, eb, ec⟩, v2023, er, p2022⟩ := hq
    rw [ea, eb, ec, er]
    clear ea eb ec er Ia Ja Ra r
    have hfd : v2023.toInt = (fnS S (tW B n (tT B n p))) := p2022
    refine WP_istore_n (ls' := [(0, _), (1, _)]) dX11_readIlls_30 (by decide) rfl ?_
    refine WP_iload_n dX11_readIlls_31 rfl ?_
    refine WQ_iconst (-1) (-1) dX11_readIlls_32 rfl rfl (fun v2024 hv2024 => ?_)
    refine WQ_icmp_eq 51 dX11_readIlls_33 rfl (fun c2024 => ?_) (fun c2024 => ?_)
    · refine WP_iload_n dX11_readIlls_51 rfl ?_
      refine WQ_iconst (-1) (-1) dX11_readIlls_52 rfl rfl (fun v2026 hv2026 => ?_)
      refine WQ_icmp_ne 62 dX11_readIlls_53 rfl (fun c2026 => False.elim (by omega)) (fun c2026 => ?_)
      refine WP_aload_n dX11_readIlls_56 rfl ?_
      refine WQ_iconst (5) (5) dX11_readIlls_57 rfl rfl (fun v2028 hv2028 => ?_)
      refine WP_callV1 (k := 11) dX11_readIlls_58 ⟨⟨⟨by decide, by decide⟩, zX11_bad⟩, lX11_49, by decide, rfl, vX11_bad.1, vX11_bad.2⟩ (ly_is hy 0 11 rfl) (em_bad hy hr _  ) (Nat.le_of_ble_eq_true rfl) ?_
      intro r I2031 J2032 Ra hq
      obtain ⟨ec, g2033, g2034, g2035, v2030, er, p2029⟩ := hq
      rw [ec, er]
      clear ec er Ra r
      have e2036 : I2031 (ad g 0) 7 = w2000 := by rw [g2035 7 (by decide)]; exact e2011
      have e2037 : I2031 (ad g 0) 15 = w2003 := by rw [g2035 15 (by decide)]; exact e2014
      have e2038 : I2031 (ad g 0) 3 = w2018 := by rw [g2035 3 (by decide)]; exact ew2018
      have e2039 : I2031 (ad g 0) 5 = w2019 := by rw [g2035 5 (by decide)]; exact ew2019
      have fI2040 : FC g [0, 17] I I2031 := FC_tr fI2015 (FC_mono g2033 (by decide))
      have fJ2041 : FC g [] J J2032 := FC_tr fJ2016 (FC_mono g2034 (by decide))
      have fQ2042 : FQ g [3, 4, 5, 6, 7, 8, 9] I I2031 := FQ_tr fQ2017 (FQ_mono g2035 (by decide))
      obtain ⟨w2043, ew2043⟩ : ∃ w : Int32, I2031 (ad g 0) 8 = w := ⟨_, rfl⟩
      obtain ⟨w2044, ew2044⟩ : ∃ w : Int32, I2031 (ad g 0) 9 = w := ⟨_, rfl⟩
      try simp only [e2038, e2036, ew2043, ew2044, e2037, e2039, ew1999, ew2000, ew2001, ew2002, ew2003, ew2004] at p2029
      obtain ⟨z0, z8, z9⟩ := p2029
      try simp only [ew2018] at z9
      exact WP_zret dX11_readIlls_61 rfl (nar_z (by omega)) ⟨rfl, fI2040, fJ2041, fQ2042, v2030, rfl, by
        try simp only [e2036, e2037, e2038, e2039, ew2043, ew2044, ew1999, ew2000, ew2001, ew2002, ew2003, ew2004]
        refine Or.inl ⟨by omega, 5, tF B n (tT B n p), clu_er (ch := 115) ha E0 (by decide) rfl (by rw [prt_s hk, if_pos (by omega)]), ?_⟩
        unfold ERM
        try simp only [ew2043, ew2044]
        exact ⟨by rw [z8]; omega, by rw [z9]; omega⟩⟩
    · have hfb := fnS_b (S := S) (w := tW B n (tT B n p)) (by omega) (by omega)
      have hmk := hPI.2.2.2.2.2.2.1 (fnS S (tW B n (tT B n p))).toNat (by omega)
      refine WP_aload_n dX11_readIlls_36 rfl ?_
      refine WP_getr dX11_readIlls_37 fX11_108 rfl (ly_is hy 0 11 rfl) (rf hr 0 35 17 (by decide)) ?_
      refine WP_iload_n dX11_readIlls_40 rfl ?_
      refine WE_ia dX11_readIlls_41 (ly_is hy 17 13 rfl) (ly_n hy 17 4 rfl) (by omega) (by omega) (fun v2045 ev2045 => ?_)
      have hrow : v2045.toInt = S.1 5 (fnS S (tW B n (tT B n p))).toNat := by
        rw [← ev2045, show v2023.toInt.toNat = (fnS S (tW B n (tT B n p))).toNat by omega]
        exact hR1.2.2.2.1 (17, 5, 1) (by decide) (fnS S (tW B n (tT B n p))).toNat (by show ((((fnS S (tW B n (tT B n p))).toNat) : Nat) : Int) < ((1 : Nat) : Int) * S.1 0 1; omega)
      refine WQ_if_eq 51 dX11_readIlls_42 rfl (fun c2045 => ?_) (fun c2045 => ?_)
      · refine WP_iload_n dX11_readIlls_51 rfl ?_
        refine WQ_iconst (-1) (-1) dX11_readIlls_52 rfl rfl (fun v2047 hv2047 => ?_)
        refine WQ_icmp_ne 62 dX11_readIlls_53 rfl (fun c2047 => ?_) (fun c2047 => False.elim (by omega))
        obtain ⟨P1, hPa1, hPb1, k1⟩ : ∃ P9 : Nat → Int, P9 0 = (fnS S (tW B n (tT B n p))) ∧ (∀ j, j ≠ 0 → P9 j = (fun _ => 0) j) ∧ prt B n 7 0 115 (tT B n p) S (fun _ => 0) = .ok (S, P9) := ⟨fun j => if j = 0 then (fnS S (tW B n (tT B n p))) else (fun _ => 0) j, if_pos rfl, fun j hj => if_neg hj, (by rw [prt_s hk, if_neg (by omega), if_neg (by rintro ⟨-, z⟩; exact absurd (hmk.mp z) (by omega))])⟩
        have E1 := clu_go E0 (by decide) rfl k1
        have hR2 := RTM_b hSB hR1 (28 + (fnS S (tW B n (tT B n p))).toNat) 0 (by omega)
        refine WP_aload_n dX11_readIlls_62 rfl ?_
        refine WP_callV0 (k := 11) dX11_readIlls_63 ⟨⟨⟨by decide, by decide⟩, zX11_scan⟩, lX11_63, by decide, rfl, vX11_scan.1, vX11_scan.2⟩ (ly_is hy 0 11 rfl) (em_scan hy hr   hT1 hn hB hC1.2.1 (tT_le B hq1).2) (Nat.le_of_ble_eq_true rfl) ?_
        intro r I2050 J2051 Ra hq
        obtain ⟨ec, g2052, g2053, g2054, er, p2049⟩ := hq
        rw [ec, er]
        clear ec er Ra r
        have e2055 : I2050 (ad g 0) 7 = w2000 := by rw [g2054 7 (by decide)]; exact e2011
        have e2056 : I2050 (ad g 0) 8 = w2001 := by rw [g2054 8 (by decide)]; exact e2012
        have e2057 : I2050 (ad g 0) 9 = w2002 := by rw [g2054 9 (by decide)]; exact e2013
        have e2058 : I2050 (ad g 0) 15 = w2003 := by rw [g2054 15 (by decide)]; exact e2014
        have e2059 : I2050 (ad g 17) v2023.toInt.toNat = v2045 := by rw [FC_at hy g2052 17 (by decide) (by decide)]; exact ev2045
        have fI2060 : FC g [0, 17] I I2050 := FC_tr fI2015 (FC_mono g2052 (by decide))
        have fJ2061 : FC g [] J J2051 := FC_tr fJ2016 (FC_mono g2053 (by decide))
        have fQ2062 : FQ g [3, 4, 5, 6, 7, 8, 9] I I2050 := FQ_tr fQ2017 (FQ_mono g2054 (by decide))
        obtain ⟨w2063, ew2063⟩ : ∃ w : Int32, I2050 (ad g 0) 3 = w := ⟨_, rfl⟩
        obtain ⟨w2064, ew2064⟩ : ∃ w : Int32, I2050 (ad g 0) 5 = w := ⟨_, rfl⟩
        try simp only [ew2063, e2055, e2056, e2057, e2058, ew2064, ew1999, ew2000, ew2001, ew2002, ew2003, ew2004] at p2049
        obtain ⟨hT3, hC3⟩ := p2049
        have hR3 := RTM_fr hy hR2 g2052 g2053 g2054 (by decide) (by decide) (by decide)
        have nf3 := NOF_tr nf1 (NOF_fq g2054 (by decide))
        have hq3 := (tT_le B hq1).2
        refine WP_aload_n dX11_readIlls_66 rfl ?_
        refine WQ_iconst (1) (1) dX11_readIlls_67 rfl rfl (fun v2065 hv2065 => ?_)
        refine WQ_bipush (127) (127) dX11_readIlls_68 rfl rfl (fun v2066 hv2066 => ?_)
        refine WP_callV2 (k := 11) dX11_readIlls_70 ⟨⟨⟨by decide, by decide⟩, zX11_number⟩, lX11_81, by decide, rfl, vX11_number.1, vX11_number.2⟩ (ly_is hy 0 11 rfl) (em_num hy hr _ _  (c := 7) (i := 1) (ch := 73) (S := S) (P := P1) hT3 hC3 hn hB hq3 (by decide) (by decide) (by rw [show loB 73 = 1 from rfl]; omega) (by rw [show hiB 73 = 127 from rfl]; omega)) (Nat.le_of_ble_eq_true rfl) ?_
        intro r I2069 J2070 Ra hq
        obtain ⟨ec, g2071, g2072, g2073, v2068, er, p2067⟩ := hq
        rw [ec, er]
        clear ec er Ra r
        have e2074 : I2069 (ad g 0) 15 = w2003 := by rw [g2073 15 (by decide)]; exact e2058
        have e2075 : I2069 (ad g 17) v2023.toInt.toNat = v2045 := by rw [FC_at hy g2071 17 (by decide) (by decide)]; exact e2059
        have fI2076 : FC g [0, 17] I I2069 := FC_tr fI2060 (FC_mono g2071 (by decide))
        have fJ2077 : FC g [] J J2070 := FC_tr fJ2061 (FC_mono g2072 (by decide))
        have fQ2078 : FQ g [3, 4, 5, 6, 7, 8, 9] I I2069 := FQ_tr fQ2062 (FQ_mono g2073 (by decide))
        obtain ⟨w2079, ew2079⟩ : ∃ w : Int32, I2069 (ad g 0) 3 = w := ⟨_, rfl⟩
        obtain ⟨w2080, ew2080⟩ : ∃ w : Int32, I2069 (ad g 0) 7 = w := ⟨_, rfl⟩
        obtain ⟨w2081, ew2081⟩ : ∃ w : Int32, I2069 (ad g 0) 8 = w := ⟨_, rfl⟩
        obtain ⟨w2082, ew2082⟩ : ∃ w : Int32, I2069 (ad g 0) 9 = w := ⟨_, rfl⟩
        obtain ⟨w2083, ew2083⟩ : ∃ w : Int32, I2069 (ad g 0) 5 = w := ⟨_, rfl⟩
        try simp only [ew2079, ew2080, ew2081, ew2082, e2074, ew2083, ew1999, ew2000, ew2001, ew2002, ew2003, ew2004] at p2067
        refine WQ_if_ne 78 dX11_readIlls_73 rfl (fun c2083 => ?_) (fun c2083 => ?_)
        · obtain ⟨-, kz, lb4, ub4, gt4, hT4, hC4, nz⟩ := Or.resolve_left p2067 (by rintro ⟨z, -⟩; omega)
          clear p2067
          have hR4 := RTM_fr hy hR3 g2071 g2072 g2073 (by decide) (by decide) (by decide)
          have nf4 := NOF_tr nf3 nz
          have hq4 := (tT_le B hq3).2
          clear nz
          obtain ⟨P2, hPa2, hPb2, k2⟩ : ∃ P9 : Nat → Int, P9 1 = tV B n (tT B n (tT B n p)) ∧ (∀ j, j ≠ 1 → P9 j = P1 j) ∧ prt B n 7 1 73 (tT B n (tT B n p)) S P1 = .ok (S, P9) := ⟨fun j => if j = 1 then tV B n (tT B n (tT B n p)) else P1 j, if_pos rfl, fun j hj => if_neg hj, kz⟩
          have E2 := clu_go E1 (by decide) rfl k2
          clear kz
          refine WP_aload_n dX11_readIlls_78 rfl ?_
          refine WP_getr dX11_readIlls_79 fX11_108 rfl (ly_is hy 0 11 rfl) (rf hr 0 35 17 (by decide)) ?_
          refine WP_iload_n dX11_readIlls_82 rfl ?_
          refine WP_aload_n dX11_readIlls_83 rfl ?_
          refine WQ_getim dX11_readIlls_84 fX11_56 rfl (ly_is hy 0 11 rfl) ew2080 ?_
          refine WE_is dX11_readIlls_87 (ly_is hy 17 13 rfl) (ly_n hy 17 4 rfl) (by omega) (by omega) (fun I2085 eI2085 => ?_)
          have e2086 : I2085 (ad g 0) 15 = w2003 := by rw [eI2085, pp_ne _ _ (Or.inl (ly_ne hy (by decide) (by decide) (by decide)))]; exact e2074
          have e2087 : I2085 (ad g 0) 3 = w2079 := by rw [eI2085, pp_ne _ _ (Or.inl (ly_ne hy (by decide) (by decide) (by decide)))]; exact ew2079
          have e2088 : I2085 (ad g 0) 7 = w2080 := by rw [eI2085, pp_ne _ _ (Or.inl (ly_ne hy (by decide) (by decide) (by decide)))]; exact ew2080
          have e2089 : I2085 (ad g 0) 8 = w2081 := by rw [eI2085, pp_ne _ _ (Or.inl (ly_ne hy (by decide) (by decide) (by decide)))]; exact ew2081
          have e2090 : I2085 (ad g 0) 9 = w2082 := by rw [eI2085, pp_ne _ _ (Or.inl (ly_ne hy (by decide) (by decide) (by decide)))]; exact ew2082
          have e2091 : I2085 (ad g 0) 5 = w2083 := by rw [eI2085, pp_ne _ _ (Or.inl (ly_ne hy (by decide) (by decide) (by decide)))]; exact ew2083
          have fI2092 : FC g [0, 17] I I2085 := by rw [eI2085]; exact FC_pp fI2076 (by decide)
          have fQ2093 : FQ g [3, 4, 5, 6, 7, 8, 9] I I2085 := by rw [eI2085]; exact FQ_ppn (ly_ne hy (by decide) (by decide) (by decide)) fQ2078
          have hR5 : RTM g (pp S.1 5 (fnS S (tW B n (tT B n p))).toNat (tV B n (tT B n (tT B n p))), pp S.2 (28 + (fnS S (tW B n (tT B n p))).toNat) 0 true) I2085 J2070 := by
            rw [eI2085, show v2023.toInt.toNat = (fnS S (tW B n (tT B n p))).toNat by omega]
            exact RTM_rs hy hR4 (17, 5, 1) (by decide) _ _ _ (by omega)
          have hT5 : TPM g B n I2085 := by rw [eI2085]; exact tpm_pp hy hT4 (by decide)
          have hC5 : CUM g B n (tT B n (tT B n (tT B n p))) I2085 := by rw [eI2085]; exact cum_pp hy hC4 (by decide)
          have nf5 : NOF g I I2085 := by rw [eI2085]; exact NOF_tr nf4 (NOF_pp hy (by decide))
          refine WQ_iconst (1) (1) dX11_readIlls_88 rfl rfl (fun v2094 hv2094 => ?_)
          exact WP_zret dX11_readIlls_89 rfl (nar_z (by omega)) ⟨rfl, fI2092, fJ2077, fQ2093, v2094, rfl, by
            try simp only [e2086, e2087, e2088, e2089, e2090, e2091, ew1999, ew2000, ew2001, ew2002, ew2003, ew2004]
            refine Or.inr ⟨by omega, S, P2, (tT B n (tT B n (tT B n p))), clu_ok ha E2, ?_, hT5, hC5, nf5⟩
            show RTM g (pp (pp S.1 0 0 (S.1 0 0 + 1)) 5 (P2 0).toNat (P2 1), pp S.2 (28 + (P2 0).toNat) 0 true) _ _
            rw [hPa2, hPb2 0 (by decide), hPa1, pp_comm (Or.inl (by decide))]
            exact RTM_cnt _ hR5⟩
        · refine WQ_iconst (0) (0) dX11_readIlls_76 rfl rfl (fun v2095 hv2095 => ?_)
          exact WP_zret dX11_readIlls_77 rfl (nar_z (by omega)) ⟨rfl, fI2076, fJ2077, fQ2078, v2095, rfl, by
            try simp only [e2074, ew2079, ew2080, ew2081, ew2082, ew2083, ew1999, ew2000, ew2001, ew2002, ew2003, ew2004]
            rcases p2067 with ⟨-, e⟩ | ⟨z, -⟩
            · exact Or.inl ⟨by omega, ERR_to e (fun er h => clu_er ha E1 (by decide) rfl h)⟩
            · exact absurd z (by omega)⟩
      · refine WP_aload_n dX11_readIlls_45 rfl ?_
        refine WQ_iconst (3) (3) dX11_readIlls_46 rfl rfl (fun v2096 hv2096 => ?_)
        refine WP_callV1 (k := 11) dX11_readIlls_47 ⟨⟨⟨by decide, by decide⟩, zX11_bad⟩, lX11_49, by decide, rfl, vX11_bad.1, vX11_bad.2⟩ (ly_is hy 0 11 rfl) (em_bad hy hr _  ) (Nat.le_of_ble_eq_true rfl) ?_
        intro r I2099 J2100 Ra hq
        obtain ⟨ec, g2101, g2102, g2103, v2098, er, p2097⟩ := hq
        rw [ec, er]
        clear ec er Ra r
        have e2104 : I2099 (ad g 0) 7 = w2000 := by rw [g2103 7 (by decide)]; exact e2011
        have e2105 : I2099 (ad g 0) 15 = w2003 := by rw [g2103 15 (by decide)]; exact e2014
        have e2106 : I2099 (ad g 0) 3 = w2018 := by rw [g2103 3 (by decide)]; exact ew2018
        have e2107 : I2099 (ad g 0) 5 = w2019 := by rw [g2103 5 (by decide)]; exact ew2019
        have e2108 : I2099 (ad g 17) v2023.toInt.toNat = v2045 := by rw [FC_at hy g2101 17 (by decide) (by decide)]; exact ev2045
        have fI2109 : FC g [0, 17] I I2099 := FC_tr fI2015 (FC_mono g2101 (by decide))
        have fJ2110 : FC g [] J J2100 := FC_tr fJ2016 (FC_mono g2102 (by decide))
        have fQ2111 : FQ g [3, 4, 5, 6, 7, 8, 9] I I2099 := FQ_tr fQ2017 (FQ_mono g2103 (by decide))
        obtain ⟨w2112, ew2112⟩ : ∃ w : Int32, I2099 (ad g 0) 8 = w := ⟨_, rfl⟩
        obtain ⟨w2113, ew2113⟩ : ∃ w : Int32, I2099 (ad g 0) 9 = w := ⟨_, rfl⟩
        try simp only [e2106, e2104, ew2112, ew2113, e2105, e2107, ew1999, ew2000, ew2001, ew2002, ew2003, ew2004] at p2097
        obtain ⟨z0, z8, z9⟩ := p2097
        try simp only [ew2018] at z9
        exact WP_zret dX11_readIlls_50 rfl (nar_z (by omega)) ⟨rfl, fI2109, fJ2110, fQ2111, v2098, rfl, by
          try simp only [e2104, e2105, e2106, e2107, ew2112, ew2113, ew1999, ew2000, ew2001, ew2002, ew2003, ew2004]
          refine Or.inl ⟨by omega, 3, tF B n (tT B n p), clu_er (ch := 115) ha E0 (by decide) rfl (by rw [prt_s hk, if_neg (by omega), if_pos ⟨rfl, hmk.mpr (by omega)⟩]), ?_⟩
          unfold ERM
          try simp only [ew2112, ew2113]
          exact ⟨by rw [z8]; omega, by rw [z9]; omega⟩⟩
  · refine WP_aload_n dX11_readIlls_12 rfl ?_
    refine WQ_iconst (1) (1) dX11_readIlls_13 rfl rfl (fun v2114 hv2114 => ?_)
    refine WP_callV1 (k := 11) dX11_readIlls_14 ⟨⟨⟨by decide, by decide⟩, zX11_bad⟩, lX11_49, by decide, rfl, vX11_bad.1, vX11_bad.2⟩ (ly_is hy 0 11 rfl) (em_bad hy hr _  ) (Nat.le_of_ble_eq_true rfl) ?_
    intro r I2117 J2118 Ra hq
    obtain ⟨ec, g2119, g2120, g2121, v2116, er, p2115⟩ := hq
    rw [ec, er]
    clear ec er Ra r
    have e2122 : I2117 (ad g 0) 7 = w2000 := by rw [g2121 7 (by decide)]; exact e2011
    have e2123 : I2117 (ad g 0) 15 = w2003 := by rw [g2121 15 (by decide)]; exact e2014
    have e2124 : I2117 (ad g 0) 3 = w2018 := by rw [g2121 3 (by decide)]; exact ew2018
    have e2125 : I2117 (ad g 0) 5 = w2019 := by rw [g2121 5 (by decide)]; exact ew2019
    have fI2126 : FC g [0, 17] I I2117 := FC_tr fI2015 (FC_mono g2119 (by decide))
    have fJ2127 : FC g [] J J2118 := FC_tr fJ2016 (FC_mono g2120 (by decide))
    have fQ2128 : FQ g [3, 4, 5, 6, 7, 8, 9] I I2117 := FQ_tr fQ2017 (FQ_mono g2121 (by decide))
    obtain ⟨w2129, ew2129⟩ : ∃ w : Int32, I2117 (ad g 0) 8 = w := ⟨_, rfl⟩
    obtain ⟨w2130, ew2130⟩ : ∃ w : Int32, I2117 (ad g 0) 9 = w := ⟨_, rfl⟩
    try simp only [e2124, e2122, ew2129, ew2130, e2123, e2125, ew1999, ew2000, ew2001, ew2002, ew2003, ew2004] at p2115
    obtain ⟨z0, z8, z9⟩ := p2115
    try simp only [ew2018] at z9
    exact WP_zret dX11_readIlls_17 rfl (nar_z (by omega)) ⟨rfl, fI2126, fJ2127, fQ2128, v2116, rfl, by
      try simp only [e2122, e2123, e2124, e2125, ew2129, ew2130, ew1999, ew2000, ew2001, ew2002, ew2003, ew2004]
      refine Or.inl ⟨by omega, 1, tF B n (tT B n p), clu_er (ch := 115) ha E0 (by decide) rfl (prt_x (by omega)), ?_⟩
      unfold ERM
      try simp only [ew2129, ew2130]
      exact ⟨by rw [z8]; omega, by rw [z9]; omega⟩⟩
