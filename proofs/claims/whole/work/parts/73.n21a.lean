/-! ===== the law's loop: each case ===== -/
abbrev ll_b : List FieldType := []
def ll_W (p : Program) (l : Launch) (e : Env) (s : State) (m : MethodId) (below : List Frame) (meth : Method) (c : Code) (b : Nat) (G : k_G) (o : Nat) (a : Nat → Nat) (w : Nat) (cJ : ClassId) (xa : Nat) (Q : State → Prop) (t1 t pc : Nat) : Prop :=
  ∀ (mm : q_Mem) (ad : k_Ad) (f0 : Nat → Int64) (H : Heap) (locs : List Loc) (ls : Array Slot), Inv mm → (∀ v, v < 40 → sp_N mm v) → sp_K mm ≤ t1 → ad 0 0 = xa → ll_I G o a w cJ s.heap.size ad (k_C G ad mm) mm f0 H → va_S (ll_0 s.heap.size) s.heap H locs → lv_has ls 7 [(0, .ref b), (1, .ref xa), (2, .ref o), (3, .ref w), (4, .int (nI (6 * t)))] →
    W p l e room_1 s m #[Value.ref b] below meth c H locs (30 + 10 * t1) (20000 + 100 * t1) Q (F0 m pc ls [])
section
variable {mm : q_Mem} {x y z : Int32}
theorem NS.refrn {n : Nat} (hn : n = 341) : NS mm (sp_refr mm).2 := by
  rw [rfn_endn n hn]; exact NS_rfn n
theorem NS.refr : NS mm (sp_refr mm).2 := NS.refrn rfl
theorem NS.trust : NS mm (sp_trust mm x).2 := by unfold sp_trust; split <;> exact NS.s
theorem NS.ofway {k : Nat} : NS mm (sp_ofway k mm x).2 := by unfold sp_ofway; split <;> exact NS.s
theorem NS.ver : NS mm (sp_ver mm x y).2 := by unfold sp_ver; split <;> exact NS.s
theorem NS.sta : NS mm (sp_sta mm x y).2 := by unfold sp_sta; split <;> exact NS.s
theorem NS.ptr : NS mm (sp_ptr mm x y z).2 := by
  unfold sp_ptr; split
  · split <;> exact NS.s
  · exact NS.s
theorem NS.anew : NS mm (sp_anew mm x y z).2 := by
  unfold sp_anew; split
  · split <;> exact NS.s
  · exact NS.s
theorem NS.tst : NS mm (sp_tst mm x y z).2 := by unfold sp_tst; split <;> exact NS.s
theorem NS.isst : NS mm (sp_isst mm x y z).2 := by unfold sp_isst; split <;> exact NS.s
theorem NS.stl : NS mm (sp_stl mm x).2 := by unfold sp_stl; split <;> exact NS.s
theorem NS.cat : NS mm (sp_cat mm x).2 := by unfold sp_cat; split <;> exact NS.s
theorem NS.sgt : NS mm (sp_sgt mm x).2 := by unfold sp_sgt; split <;> exact NS.s
theorem NS.dear : NS mm (sp_dear mm x).2 := by unfold sp_dear; split <;> exact NS.s
theorem NS.tar : NS mm (sp_tar mm x).2 := by unfold sp_tar; split <;> exact NS.s
end
theorem dL_law_595 : decode cL_law 595 = .ok (.aload_n 1, 1) := by decide +kernel
theorem dL_law_596 : decode cL_law 596 = .ok (.aload_n 0, 1) := by decide +kernel
theorem dL_law_597 : decode cL_law 597 = .ok (.iload 4, 2) := by decide +kernel
theorem dL_law_599 : decode cL_law 599 = .ok (.iconst 1, 1) := by decide +kernel
theorem dL_law_600 : decode cL_law 600 = .ok (.iadd, 1) := by decide +kernel
theorem dL_law_601 : decode cL_law 601 = .ok (.iaload, 1) := by decide +kernel
theorem dL_law_602 : decode cL_law 602 = .ok (.aload_n 3, 1) := by decide +kernel
theorem dL_law_603 : decode cL_law 603 = .ok (.invokestatic 120, 3) := by decide +kernel
theorem dL_law_606 : decode cL_law 606 = .ok (.istore 5, 2) := by decide +kernel
theorem dL_law_608 : decode cL_law 608 = .ok (.aload_n 2, 1) := by decide +kernel
theorem dL_law_609 : decode cL_law 609 = .ok (.aload_n 0, 1) := by decide +kernel
theorem dL_law_610 : decode cL_law 610 = .ok (.iload 4, 2) := by decide +kernel
theorem dL_law_612 : decode cL_law 612 = .ok (.iconst 1, 1) := by decide +kernel
theorem dL_law_613 : decode cL_law 613 = .ok (.iadd, 1) := by decide +kernel
theorem dL_law_614 : decode cL_law 614 = .ok (.iaload, 1) := by decide +kernel
theorem dL_law_615 : decode cL_law 615 = .ok (.invokevirtual 123, 3) := by decide +kernel
theorem dL_law_618 : decode cL_law 618 = .ok (.istore 6, 2) := by decide +kernel
theorem dL_law_620 : decode cL_law 620 = .ok (.aload_n 2, 1) := by decide +kernel
theorem dL_law_621 : decode cL_law 621 = .ok (.invokevirtual 101, 3) := by decide +kernel
theorem dL_law_624 : decode cL_law 624 = .ok (.iload 5, 2) := by decide +kernel
theorem dL_law_626 : decode cL_law 626 = .ok (.if_icmp .eq 5, 3) := by decide +kernel
theorem dL_law_631 : decode cL_law 631 = .ok (.iload 5, 2) := by decide +kernel
theorem dL_law_633 : decode cL_law 633 = .ok (.ifCond .ne 15, 3) := by decide +kernel
theorem dL_law_636 : decode cL_law 636 = .ok (.aload_n 3, 1) := by decide +kernel
theorem dL_law_637 : decode cL_law 637 = .ok (.iconst 0, 1) := by decide +kernel
theorem dL_law_638 : decode cL_law 638 = .ok (.laload, 1) := by decide +kernel
theorem dL_law_639 : decode cL_law 639 = .ok (.iload 6, 2) := by decide +kernel
theorem dL_law_641 : decode cL_law 641 = .ok (.i2l, 1) := by decide +kernel
theorem dL_law_642 : decode cL_law 642 = .ok (.lcmp, 1) := by decide +kernel
theorem dL_law_643 : decode cL_law 643 = .ok (.ifCond .eq 5, 3) := by decide +kernel
theorem dL_law_648 : decode cL_law 648 = .ok (.goto 1212, 3) := by decide +kernel
theorem dL_law_664 : decode cL_law 664 = .ok (.aload_n 1, 1) := by decide +kernel
theorem dL_law_665 : decode cL_law 665 = .ok (.aload_n 0, 1) := by decide +kernel
theorem dL_law_666 : decode cL_law 666 = .ok (.iload 4, 2) := by decide +kernel
theorem dL_law_668 : decode cL_law 668 = .ok (.iconst 1, 1) := by decide +kernel
theorem dL_law_669 : decode cL_law 669 = .ok (.iadd, 1) := by decide +kernel
theorem dL_law_670 : decode cL_law 670 = .ok (.iaload, 1) := by decide +kernel
theorem dL_law_671 : decode cL_law 671 = .ok (.aload_n 3, 1) := by decide +kernel
theorem dL_law_672 : decode cL_law 672 = .ok (.invokestatic 128, 3) := by decide +kernel
theorem dL_law_675 : decode cL_law 675 = .ok (.istore 5, 2) := by decide +kernel
theorem dL_law_677 : decode cL_law 677 = .ok (.aload_n 2, 1) := by decide +kernel
theorem dL_law_678 : decode cL_law 678 = .ok (.aload_n 0, 1) := by decide +kernel
theorem dL_law_679 : decode cL_law 679 = .ok (.iload 4, 2) := by decide +kernel
theorem dL_law_681 : decode cL_law 681 = .ok (.iconst 1, 1) := by decide +kernel
theorem dL_law_682 : decode cL_law 682 = .ok (.iadd, 1) := by decide +kernel
theorem dL_law_683 : decode cL_law 683 = .ok (.iaload, 1) := by decide +kernel
theorem dL_law_684 : decode cL_law 684 = .ok (.invokevirtual 130, 3) := by decide +kernel
theorem dL_law_687 : decode cL_law 687 = .ok (.istore 6, 2) := by decide +kernel
theorem dL_law_689 : decode cL_law 689 = .ok (.aload_n 2, 1) := by decide +kernel
theorem dL_law_690 : decode cL_law 690 = .ok (.invokevirtual 101, 3) := by decide +kernel
theorem dL_law_693 : decode cL_law 693 = .ok (.iload 5, 2) := by decide +kernel
theorem dL_law_695 : decode cL_law 695 = .ok (.if_icmp .eq 5, 3) := by decide +kernel
theorem dL_law_700 : decode cL_law 700 = .ok (.iload 5, 2) := by decide +kernel
theorem dL_law_702 : decode cL_law 702 = .ok (.ifCond .ne 15, 3) := by decide +kernel
theorem dL_law_705 : decode cL_law 705 = .ok (.aload_n 3, 1) := by decide +kernel
theorem dL_law_706 : decode cL_law 706 = .ok (.iconst 0, 1) := by decide +kernel
theorem dL_law_707 : decode cL_law 707 = .ok (.laload, 1) := by decide +kernel
theorem dL_law_708 : decode cL_law 708 = .ok (.iload 6, 2) := by decide +kernel
theorem dL_law_710 : decode cL_law 710 = .ok (.i2l, 1) := by decide +kernel
theorem dL_law_711 : decode cL_law 711 = .ok (.lcmp, 1) := by decide +kernel
theorem dL_law_712 : decode cL_law 712 = .ok (.ifCond .eq 5, 3) := by decide +kernel
theorem dL_law_717 : decode cL_law 717 = .ok (.goto 1143, 3) := by decide +kernel
theorem dL_law_856 : decode cL_law 856 = .ok (.aload_n 1, 1) := by decide +kernel
theorem dL_law_857 : decode cL_law 857 = .ok (.aload_n 0, 1) := by decide +kernel
theorem dL_law_858 : decode cL_law 858 = .ok (.iload 4, 2) := by decide +kernel
theorem dL_law_860 : decode cL_law 860 = .ok (.iconst 1, 1) := by decide +kernel
theorem dL_law_861 : decode cL_law 861 = .ok (.iadd, 1) := by decide +kernel
theorem dL_law_862 : decode cL_law 862 = .ok (.iaload, 1) := by decide +kernel
theorem dL_law_863 : decode cL_law 863 = .ok (.aload_n 3, 1) := by decide +kernel
theorem dL_law_864 : decode cL_law 864 = .ok (.invokestatic 137, 3) := by decide +kernel
theorem dL_law_867 : decode cL_law 867 = .ok (.istore 5, 2) := by decide +kernel
theorem dL_law_869 : decode cL_law 869 = .ok (.aload_n 2, 1) := by decide +kernel
theorem dL_law_870 : decode cL_law 870 = .ok (.aload_n 0, 1) := by decide +kernel
theorem dL_law_871 : decode cL_law 871 = .ok (.iload 4, 2) := by decide +kernel
theorem dL_law_873 : decode cL_law 873 = .ok (.iconst 1, 1) := by decide +kernel
theorem dL_law_874 : decode cL_law 874 = .ok (.iadd, 1) := by decide +kernel
theorem dL_law_875 : decode cL_law 875 = .ok (.iaload, 1) := by decide +kernel
theorem dL_law_876 : decode cL_law 876 = .ok (.invokevirtual 139, 3) := by decide +kernel
theorem dL_law_879 : decode cL_law 879 = .ok (.istore 6, 2) := by decide +kernel
theorem dL_law_881 : decode cL_law 881 = .ok (.aload_n 2, 1) := by decide +kernel
theorem dL_law_882 : decode cL_law 882 = .ok (.invokevirtual 101, 3) := by decide +kernel
theorem dL_law_885 : decode cL_law 885 = .ok (.iload 5, 2) := by decide +kernel
theorem dL_law_887 : decode cL_law 887 = .ok (.if_icmp .eq 5, 3) := by decide +kernel
theorem dL_law_892 : decode cL_law 892 = .ok (.iload 5, 2) := by decide +kernel
theorem dL_law_894 : decode cL_law 894 = .ok (.ifCond .ne 15, 3) := by decide +kernel
theorem dL_law_897 : decode cL_law 897 = .ok (.aload_n 3, 1) := by decide +kernel
theorem dL_law_898 : decode cL_law 898 = .ok (.iconst 0, 1) := by decide +kernel
theorem dL_law_899 : decode cL_law 899 = .ok (.laload, 1) := by decide +kernel
theorem dL_law_900 : decode cL_law 900 = .ok (.iload 6, 2) := by decide +kernel
theorem dL_law_902 : decode cL_law 902 = .ok (.i2l, 1) := by decide +kernel
theorem dL_law_903 : decode cL_law 903 = .ok (.lcmp, 1) := by decide +kernel
theorem dL_law_904 : decode cL_law 904 = .ok (.ifCond .eq 5, 3) := by decide +kernel
theorem dL_law_909 : decode cL_law 909 = .ok (.goto 951, 3) := by decide +kernel
theorem dL_law_1332 : decode cL_law 1332 = .ok (.aload_n 1, 1) := by decide +kernel
theorem dL_law_1333 : decode cL_law 1333 = .ok (.aload_n 0, 1) := by decide +kernel
theorem dL_law_1334 : decode cL_law 1334 = .ok (.iload 4, 2) := by decide +kernel
theorem dL_law_1336 : decode cL_law 1336 = .ok (.iconst 1, 1) := by decide +kernel
theorem dL_law_1337 : decode cL_law 1337 = .ok (.iadd, 1) := by decide +kernel
theorem dL_law_1338 : decode cL_law 1338 = .ok (.iaload, 1) := by decide +kernel
theorem dL_law_1339 : decode cL_law 1339 = .ok (.aload_n 3, 1) := by decide +kernel
theorem dL_law_1340 : decode cL_law 1340 = .ok (.invokestatic 160, 3) := by decide +kernel
theorem dL_law_1343 : decode cL_law 1343 = .ok (.istore 5, 2) := by decide +kernel
theorem dL_law_1345 : decode cL_law 1345 = .ok (.aload_n 2, 1) := by decide +kernel
theorem dL_law_1346 : decode cL_law 1346 = .ok (.aload_n 0, 1) := by decide +kernel
theorem dL_law_1347 : decode cL_law 1347 = .ok (.iload 4, 2) := by decide +kernel
theorem dL_law_1349 : decode cL_law 1349 = .ok (.iconst 1, 1) := by decide +kernel
theorem dL_law_1350 : decode cL_law 1350 = .ok (.iadd, 1) := by decide +kernel
theorem dL_law_1351 : decode cL_law 1351 = .ok (.iaload, 1) := by decide +kernel
theorem dL_law_1352 : decode cL_law 1352 = .ok (.invokevirtual 162, 3) := by decide +kernel
theorem dL_law_1355 : decode cL_law 1355 = .ok (.istore 6, 2) := by decide +kernel
theorem dL_law_1357 : decode cL_law 1357 = .ok (.aload_n 2, 1) := by decide +kernel
theorem dL_law_1358 : decode cL_law 1358 = .ok (.invokevirtual 101, 3) := by decide +kernel
theorem dL_law_1361 : decode cL_law 1361 = .ok (.iload 5, 2) := by decide +kernel
theorem dL_law_1363 : decode cL_law 1363 = .ok (.if_icmp .eq 5, 3) := by decide +kernel
theorem dL_law_1368 : decode cL_law 1368 = .ok (.iload 5, 2) := by decide +kernel
theorem dL_law_1370 : decode cL_law 1370 = .ok (.ifCond .ne 15, 3) := by decide +kernel
theorem dL_law_1373 : decode cL_law 1373 = .ok (.aload_n 3, 1) := by decide +kernel
theorem dL_law_1374 : decode cL_law 1374 = .ok (.iconst 0, 1) := by decide +kernel
theorem dL_law_1375 : decode cL_law 1375 = .ok (.laload, 1) := by decide +kernel
theorem dL_law_1376 : decode cL_law 1376 = .ok (.iload 6, 2) := by decide +kernel
theorem dL_law_1378 : decode cL_law 1378 = .ok (.i2l, 1) := by decide +kernel
theorem dL_law_1379 : decode cL_law 1379 = .ok (.lcmp, 1) := by decide +kernel
theorem dL_law_1380 : decode cL_law 1380 = .ok (.ifCond .eq 5, 3) := by decide +kernel
theorem dL_law_1385 : decode cL_law 1385 = .ok (.goto 475, 3) := by decide +kernel
theorem dL_law_1580 : decode cL_law 1580 = .ok (.aload_n 1, 1) := by decide +kernel
theorem dL_law_1581 : decode cL_law 1581 = .ok (.aload_n 0, 1) := by decide +kernel
theorem dL_law_1582 : decode cL_law 1582 = .ok (.iload 4, 2) := by decide +kernel
theorem dL_law_1584 : decode cL_law 1584 = .ok (.iconst 1, 1) := by decide +kernel
theorem dL_law_1585 : decode cL_law 1585 = .ok (.iadd, 1) := by decide +kernel
theorem dL_law_1586 : decode cL_law 1586 = .ok (.iaload, 1) := by decide +kernel
theorem dL_law_1587 : decode cL_law 1587 = .ok (.aload_n 3, 1) := by decide +kernel
theorem dL_law_1588 : decode cL_law 1588 = .ok (.invokestatic 173, 3) := by decide +kernel
theorem dL_law_1591 : decode cL_law 1591 = .ok (.istore 5, 2) := by decide +kernel
theorem dL_law_1593 : decode cL_law 1593 = .ok (.aload_n 2, 1) := by decide +kernel
theorem dL_law_1594 : decode cL_law 1594 = .ok (.aload_n 0, 1) := by decide +kernel
theorem dL_law_1595 : decode cL_law 1595 = .ok (.iload 4, 2) := by decide +kernel
theorem dL_law_1597 : decode cL_law 1597 = .ok (.iconst 1, 1) := by decide +kernel
theorem dL_law_1598 : decode cL_law 1598 = .ok (.iadd, 1) := by decide +kernel
theorem dL_law_1599 : decode cL_law 1599 = .ok (.iaload, 1) := by decide +kernel
theorem dL_law_1600 : decode cL_law 1600 = .ok (.invokevirtual 175, 3) := by decide +kernel
theorem dL_law_1603 : decode cL_law 1603 = .ok (.istore 6, 2) := by decide +kernel
theorem dL_law_1605 : decode cL_law 1605 = .ok (.aload_n 2, 1) := by decide +kernel
theorem dL_law_1606 : decode cL_law 1606 = .ok (.invokevirtual 101, 3) := by decide +kernel
theorem dL_law_1609 : decode cL_law 1609 = .ok (.iload 5, 2) := by decide +kernel
theorem dL_law_1611 : decode cL_law 1611 = .ok (.if_icmp .eq 5, 3) := by decide +kernel
theorem dL_law_1616 : decode cL_law 1616 = .ok (.iload 5, 2) := by decide +kernel
theorem dL_law_1618 : decode cL_law 1618 = .ok (.ifCond .ne 15, 3) := by decide +kernel
theorem dL_law_1621 : decode cL_law 1621 = .ok (.aload_n 3, 1) := by decide +kernel
theorem dL_law_1622 : decode cL_law 1622 = .ok (.iconst 0, 1) := by decide +kernel
theorem dL_law_1623 : decode cL_law 1623 = .ok (.laload, 1) := by decide +kernel
theorem dL_law_1624 : decode cL_law 1624 = .ok (.iload 6, 2) := by decide +kernel
theorem dL_law_1626 : decode cL_law 1626 = .ok (.i2l, 1) := by decide +kernel
theorem dL_law_1627 : decode cL_law 1627 = .ok (.lcmp, 1) := by decide +kernel
theorem dL_law_1628 : decode cL_law 1628 = .ok (.ifCond .eq 5, 3) := by decide +kernel
theorem dL_law_1633 : decode cL_law 1633 = .ok (.goto 227, 3) := by decide +kernel
theorem dL_law_1636 : decode cL_law 1636 = .ok (.aload_n 1, 1) := by decide +kernel
theorem dL_law_1637 : decode cL_law 1637 = .ok (.aload_n 0, 1) := by decide +kernel
theorem dL_law_1638 : decode cL_law 1638 = .ok (.iload 4, 2) := by decide +kernel
theorem dL_law_1640 : decode cL_law 1640 = .ok (.iconst 1, 1) := by decide +kernel
theorem dL_law_1641 : decode cL_law 1641 = .ok (.iadd, 1) := by decide +kernel
theorem dL_law_1642 : decode cL_law 1642 = .ok (.iaload, 1) := by decide +kernel
theorem dL_law_1643 : decode cL_law 1643 = .ok (.aload_n 3, 1) := by decide +kernel
theorem dL_law_1644 : decode cL_law 1644 = .ok (.invokestatic 176, 3) := by decide +kernel
theorem dL_law_1647 : decode cL_law 1647 = .ok (.istore 5, 2) := by decide +kernel
theorem dL_law_1649 : decode cL_law 1649 = .ok (.aload_n 2, 1) := by decide +kernel
theorem dL_law_1650 : decode cL_law 1650 = .ok (.aload_n 0, 1) := by decide +kernel
theorem dL_law_1651 : decode cL_law 1651 = .ok (.iload 4, 2) := by decide +kernel
theorem dL_law_1653 : decode cL_law 1653 = .ok (.iconst 1, 1) := by decide +kernel
theorem dL_law_1654 : decode cL_law 1654 = .ok (.iadd, 1) := by decide +kernel
theorem dL_law_1655 : decode cL_law 1655 = .ok (.iaload, 1) := by decide +kernel
theorem dL_law_1656 : decode cL_law 1656 = .ok (.invokevirtual 178, 3) := by decide +kernel
theorem dL_law_1659 : decode cL_law 1659 = .ok (.istore 6, 2) := by decide +kernel
theorem dL_law_1661 : decode cL_law 1661 = .ok (.aload_n 2, 1) := by decide +kernel
theorem dL_law_1662 : decode cL_law 1662 = .ok (.invokevirtual 101, 3) := by decide +kernel
theorem dL_law_1665 : decode cL_law 1665 = .ok (.iload 5, 2) := by decide +kernel
theorem dL_law_1667 : decode cL_law 1667 = .ok (.if_icmp .eq 5, 3) := by decide +kernel
theorem dL_law_1672 : decode cL_law 1672 = .ok (.iload 5, 2) := by decide +kernel
theorem dL_law_1674 : decode cL_law 1674 = .ok (.ifCond .ne 15, 3) := by decide +kernel
theorem dL_law_1677 : decode cL_law 1677 = .ok (.aload_n 3, 1) := by decide +kernel
theorem dL_law_1678 : decode cL_law 1678 = .ok (.iconst 0, 1) := by decide +kernel
theorem dL_law_1679 : decode cL_law 1679 = .ok (.laload, 1) := by decide +kernel
theorem dL_law_1680 : decode cL_law 1680 = .ok (.iload 6, 2) := by decide +kernel
theorem dL_law_1682 : decode cL_law 1682 = .ok (.i2l, 1) := by decide +kernel
theorem dL_law_1683 : decode cL_law 1683 = .ok (.lcmp, 1) := by decide +kernel
theorem dL_law_1684 : decode cL_law 1684 = .ok (.ifCond .eq 5, 3) := by decide +kernel
theorem dL_law_1689 : decode cL_law 1689 = .ok (.goto 171, 3) := by decide +kernel
theorem kl_trust : wl_SW yL_trust cL_trust 4 [(0, 9, 12, 13)] 3 := ⟨wd_c_L_trust, wd_t_L_trust, wd_n_L, by decide, by decide +kernel⟩
set_option maxHeartbeats 4000000 in
set_option maxRecDepth 100000 in
theorem lc_trust {p : Program} {l : Launch} {e : Env} {s : State} {m : MethodId} {below : List Frame} {meth : Method} {c : Code} {b L : Nat} {xs : Nat → Int32} {G : k_G} {o : Nat} {a : Nat → Nat} {w : Nat} {cJ : ClassId} {xa : Nat} {Q : State → Prop} {t : Nat} (hF : CallFix p m c cL_law 7 s #[Value.ref b] wsL_law RL) (hX : ll_F l G o a w cJ s) (hSc : va_X b L xs s s.heap) (hbl : b < s.heap.size) (hL : L ≤ 3072) (ht : 6 * t + 6 ≤ L) (hnext : ll_W p l e s m below meth c b G o a w cJ xa Q (t + 1) t 1860) : ll_W p l e s m below meth c b G o a w cJ xa Q t t 595 := by
  intro mm ad f0 H locs ls hI hN hK h00 hA hS hl
  subst h00
  have hx := hF.1
  have hb := hF.2.1
  have hK1 : sp_K mm < 512 := by omega
  have hbA : ¬ ll_0 s.heap.size b := Nat.not_le.mpr hbl
  refine lv_aload_n hx hb dL_law_595 rfl (lv_at hl 1 rfl) ?_
  refine lv_aload_n hx hb dL_law_596 rfl (lv_at hl 0 rfl) ?_
  refine lv_iload hx hb dL_law_597 (lv_at hl 4 rfl) ?_
  refine lv_iconst (v := 1) hx hb dL_law_599 (by decide) ?_
  refine lv_iadd hx hb dL_law_600 ?_
  refine bo_to (v := nI (6 * t + 1)) (nI_add (6 * t) 1) ?_
  refine va_sld hF.1 hF.2.1 hSc hbl hbA hS (vp_in_nI (by omega) (by omega)) dL_law_601 ?_
  refine bo_to (v := xs (6 * t + 1)) (by rw [nI_clamp (by omega)]) ?_
  refine lv_aload_n hx hb dL_law_602 rfl (lv_at hl 3 rfl) ?_
  refine ll_L (fr := 8) (lo := 131) (mc := 1) (ms := 6) (n := 3) (As := [.ref (ad 0 0), .int (xs (6 * t + 1)), .ref w]) (rest := []) hF (m_L_trust l hX.1 G _ w cJ ad mm f0 (xs (6 * t + 1))) kl_trust wd_l_L_120 (by decide) hX hA hS rfl hl.1 rfl (Nat.le_of_ble_eq_true rfl) dL_law_603 (by show 30 + 10 * t + 1 ≤ 601024 ∧ 20000 + 100 * t + 6 ≤ 7293034; omega) (fun r ad1 ct1 f1 H locs hr hA hS => ?_)
  obtain ⟨hr19, hct, h01, hf1⟩ := hr
  replace hct : ct1 = k_C G ad1 (sp_trust mm (xs (6 * t + 1))).2 := hct
  subst hct
  replace h01 : ad1 0 0 = ad 0 0 := h01
  replace hr19 : r = (sp_trust mm (xs (6 * t + 1))).2 19 0 := hr19
  replace hf1 : r = 0 → f1 0 = Int32.toInt64 (sp_trust mm (xs (6 * t + 1))).1 := hf1
  refine lv_istore (lv' := [(5, .int r), (0, .ref b), (1, .ref (ad 0 0)), (2, .ref o), (3, .ref w), (4, .int (nI (6 * t)))]) hx hb dL_law_606 hl (by decide) rfl (fun ls hl => ?_)
  refine lv_aload_n hx hb dL_law_608 rfl (lv_at hl 3 rfl) ?_
  refine lv_aload_n hx hb dL_law_609 rfl (lv_at hl 1 rfl) ?_
  refine lv_iload hx hb dL_law_610 (lv_at hl 5 rfl) ?_
  refine lv_iconst (v := 1) hx hb dL_law_612 (by decide) ?_
  refine lv_iadd hx hb dL_law_613 ?_
  refine bo_to (v := nI (6 * t + 1)) (nI_add (6 * t) 1) ?_
  refine va_sld hF.1 hF.2.1 hSc hbl hbA hS (vp_in_nI (by omega) (by omega)) dL_law_614 ?_
  refine bo_to (v := xs (6 * t + 1)) (by rw [nI_clamp (by omega)]) ?_
  refine ll_R (fr := 1) (lo := 21) (n := 1) (As := [.int (xs (6 * t + 1))]) (rest := []) hF (m_X5_trust l G.1 G.2.1 o a mm hX.2.2.2.2.2.2.1 (xs (6 * t + 1))) ke_X5_trust wd_l_L_123 (by decide) hX hA hS rfl hl.1 rfl (Nat.le_of_ble_eq_true rfl) dL_law_615 (by show 30 + 10 * t + 1 ≤ 601024 ∧ 20000 + 100 * t + 6 ≤ 7293034; omega) (fun r2 m2 H locs hr2 hA hS => ?_)
  have e1 : r2 = (sp_trust mm (xs (6 * t + 1))).1 := congrArg Prod.fst hr2
  have e2 : m2 = (sp_trust mm (xs (6 * t + 1))).2 := congrArg Prod.snd hr2
  have ex : eqx m2 (sp_trust mm (xs (6 * t + 1))).2 := by rw [e2]; exact eqx.rf _
  have hN2 : ∀ v, v < 40 → sp_N m2 v := fun v hv => by rw [e2]; exact (NS.trust).N (hN v hv)
  have hIK : IK mm (sp_trust mm (xs (6 * t + 1))).2 := IK_trust hI
  have hK2 : sp_K m2 ≤ t + 1 := by
    have h8 := hIK.2
    have h9 : sp_K m2 = sp_K (sp_trust mm (xs (6 * t + 1))).2 := by unfold sp_K; rw [ex 10 (by decide) (by decide)]
    omega
  refine lv_istore (lv' := [(6, .int r2), (5, .int r), (0, .ref b), (1, .ref (ad 0 0)), (2, .ref o), (3, .ref w), (4, .int (nI (6 * t)))]) hx hb dL_law_618 hl (by decide) rfl (fun ls hl => ?_)
  refine lv_aload_n hx hb dL_law_620 rfl (lv_at hl 4 rfl) ?_
  refine ll_T hF wd_l_L_101 (by decide) hX hA hl.1 (Nat.le_of_ble_eq_true rfl) dL_law_621 (by show 30 + 10 * t + 1 ≤ 601024 ∧ 20000 + 100 * t + 6 ≤ 7293034; omega) ?_
  have h9 : m2 19 0 = r := by rw [hr19, ex 19 (by decide) (by decide)]
  refine lv_iload hx hb dL_law_624 (lv_at hl 1 rfl) ?_
  refine lv_icmp_eq (tgt := 631) hx hb dL_law_626 (by decide) (fun c626 => ?_) (fun c626 => ?_)
  · skip
    refine lv_iload hx hb dL_law_631 (lv_at hl 1 rfl) ?_
    refine lv_if_ne (tgt := 648) hx hb dL_law_633 (by decide) (fun cN => ?_) (fun cN => ?_)
    · skip
      refine lv_goto (tgt := 1860) hx hb dL_law_648 (by decide) ?_
      refine W.widen (k := 30 + 10 * (t + 1)) (n := 20000 + 100 * (t + 1)) (by omega) (by omega) ?_
      exact hnext m2 ad1 f1 H locs ls (Inv_ext ex.sm hIK.1) hN2 hK2 h01 (by rw [kC_x ex]; exact hA) hS (lv_sub hl [2, 3, 4, 5, 6] rfl)
    · skip
      refine lv_aload_n hx hb dL_law_636 rfl (lv_at hl 5 rfl) ?_
      refine lv_iconst (v := 0) hx hb dL_law_637 (by decide) ?_
      refine va_lald hF.1 hF.2.1 hX.2.2.2.1 (mo_one hA.2.2.2) 0 0 rfl rfl (show vp_in (nI 0) 1 from vp_in_nI (by decide) (by decide)) dL_law_638 ?_
      refine bo_toV (v := .long (Int32.toInt64 r2)) (by rw [e1]; exact congrArg Value.long (hf1 cN)) ?_
      refine lv_iload hx hb dL_law_639 (lv_at hl 0 rfl) ?_
      refine lv_i2l (v := Int32.toInt64 r2) hx hb dL_law_641 rfl ?_
      refine W.lcmp hx hb dL_law_642 ?_
      refine bo_to (v := 0) (by simp [lg_cmp]) ?_
      refine lv_if_eq (tgt := 648) hx hb dL_law_643 (by decide) (fun cE => ?_) (fun cE => ?_)
      · skip
        refine lv_goto (tgt := 1860) hx hb dL_law_648 (by decide) ?_
        refine W.widen (k := 30 + 10 * (t + 1)) (n := 20000 + 100 * (t + 1)) (by omega) (by omega) ?_
        exact hnext m2 ad1 f1 H locs ls (Inv_ext ex.sm hIK.1) hN2 hK2 h01 (by rw [kC_x ex]; exact hA) hS (lv_sub hl [2, 3, 4, 5, 6] rfl)
      · skip
        exact absurd rfl cE
  · skip
    exact absurd h9 c626
theorem kl_versions : wl_SW yL_versions cL_versions 4 [(0, 9, 12, 13)] 3 := ⟨wd_c_L_versions, wd_t_L_versions, wd_n_L, by decide, by decide +kernel⟩
set_option maxHeartbeats 4000000 in
set_option maxRecDepth 100000 in
theorem lc_versions {p : Program} {l : Launch} {e : Env} {s : State} {m : MethodId} {below : List Frame} {meth : Method} {c : Code} {b L : Nat} {xs : Nat → Int32} {G : k_G} {o : Nat} {a : Nat → Nat} {w : Nat} {cJ : ClassId} {xa : Nat} {Q : State → Prop} {t : Nat} (hF : CallFix p m c cL_law 7 s #[Value.ref b] wsL_law RL) (hX : ll_F l G o a w cJ s) (hSc : va_X b L xs s s.heap) (hbl : b < s.heap.size) (hL : L ≤ 3072) (ht : 6 * t + 6 ≤ L) (hnext : ll_W p l e s m below meth c b G o a w cJ xa Q (t + 1) t 1860) : ll_W p l e s m below meth c b G o a w cJ xa Q t t 664 := by
  intro mm ad f0 H locs ls hI hN hK h00 hA hS hl
  subst h00
  have hx := hF.1
  have hb := hF.2.1
  have hK1 : sp_K mm < 512 := by omega
  have hbA : ¬ ll_0 s.heap.size b := Nat.not_le.mpr hbl
  refine lv_aload_n hx hb dL_law_664 rfl (lv_at hl 1 rfl) ?_
  refine lv_aload_n hx hb dL_law_665 rfl (lv_at hl 0 rfl) ?_
  refine lv_iload hx hb dL_law_666 (lv_at hl 4 rfl) ?_
  refine lv_iconst (v := 1) hx hb dL_law_668 (by decide) ?_
  refine lv_iadd hx hb dL_law_669 ?_
  refine bo_to (v := nI (6 * t + 1)) (nI_add (6 * t) 1) ?_
  refine va_sld hF.1 hF.2.1 hSc hbl hbA hS (vp_in_nI (by omega) (by omega)) dL_law_670 ?_
  refine bo_to (v := xs (6 * t + 1)) (by rw [nI_clamp (by omega)]) ?_
  refine lv_aload_n hx hb dL_law_671 rfl (lv_at hl 3 rfl) ?_
  refine ll_L (fr := 8) (lo := 132) (mc := 1) (ms := 6) (n := 3) (As := [.ref (ad 0 0), .int (xs (6 * t + 1)), .ref w]) (rest := []) hF (m_L_versions l hX.1 G _ w cJ ad mm f0 (xs (6 * t + 1)) hI) kl_versions wd_l_L_128 (by decide) hX hA hS rfl hl.1 rfl (Nat.le_of_ble_eq_true rfl) dL_law_672 (by show 30 + 10 * t + 1 ≤ 601024 ∧ 20000 + 100 * t + 6 ≤ 7293034; omega) (fun r ad1 ct1 f1 H locs hr hA hS => ?_)
  obtain ⟨hr19, hct, h01, hf1⟩ := hr
  replace hct : ct1 = k_C G ad1 (sp_ofway 7 mm (xs (6 * t + 1))).2 := hct
  subst hct
  replace h01 : ad1 0 0 = ad 0 0 := h01
  replace hr19 : r = (sp_ofway 7 mm (xs (6 * t + 1))).2 19 0 := hr19
  replace hf1 : r = 0 → f1 0 = Int32.toInt64 (sp_ofway 7 mm (xs (6 * t + 1))).1 := hf1
  refine lv_istore (lv' := [(5, .int r), (0, .ref b), (1, .ref (ad 0 0)), (2, .ref o), (3, .ref w), (4, .int (nI (6 * t)))]) hx hb dL_law_675 hl (by decide) rfl (fun ls hl => ?_)
  refine lv_aload_n hx hb dL_law_677 rfl (lv_at hl 3 rfl) ?_
  refine lv_aload_n hx hb dL_law_678 rfl (lv_at hl 1 rfl) ?_
  refine lv_iload hx hb dL_law_679 (lv_at hl 5 rfl) ?_
  refine lv_iconst (v := 1) hx hb dL_law_681 (by decide) ?_
  refine lv_iadd hx hb dL_law_682 ?_
  refine bo_to (v := nI (6 * t + 1)) (nI_add (6 * t) 1) ?_
  refine va_sld hF.1 hF.2.1 hSc hbl hbA hS (vp_in_nI (by omega) (by omega)) dL_law_683 ?_
  refine bo_to (v := xs (6 * t + 1)) (by rw [nI_clamp (by omega)]) ?_
  refine ll_R (fr := 1) (lo := 21) (n := 1) (As := [.int (xs (6 * t + 1))]) (rest := []) hF (m_X5_versions l G.1 G.2.1 o a mm hX.2.2.2.2.2.2.1 (xs (6 * t + 1)) hI) ke_X5_versions wd_l_L_130 (by decide) hX hA hS rfl hl.1 rfl (Nat.le_of_ble_eq_true rfl) dL_law_684 (by show 30 + 10 * t + 1 ≤ 601024 ∧ 20000 + 100 * t + 6 ≤ 7293034; omega) (fun r2 m2 H locs hr2 hA hS => ?_)
  have e1 : r2 = (sp_ofway 7 mm (xs (6 * t + 1))).1 := congrArg Prod.fst hr2
  have e2 : m2 = (sp_ofway 7 mm (xs (6 * t + 1))).2 := congrArg Prod.snd hr2
  have ex : eqx m2 (sp_ofway 7 mm (xs (6 * t + 1))).2 := by rw [e2]; exact eqx.rf _
  have hN2 : ∀ v, v < 40 → sp_N m2 v := fun v hv => by rw [e2]; exact (NS.ofway).N (hN v hv)
  have hIK : IK mm (sp_ofway 7 mm (xs (6 * t + 1))).2 := IK_ofway hI
  have hK2 : sp_K m2 ≤ t + 1 := by
    have h8 := hIK.2
    have h9 : sp_K m2 = sp_K (sp_ofway 7 mm (xs (6 * t + 1))).2 := by unfold sp_K; rw [ex 10 (by decide) (by decide)]
    omega
  refine lv_istore (lv' := [(6, .int r2), (5, .int r), (0, .ref b), (1, .ref (ad 0 0)), (2, .ref o), (3, .ref w), (4, .int (nI (6 * t)))]) hx hb dL_law_687 hl (by decide) rfl (fun ls hl => ?_)
  refine lv_aload_n hx hb dL_law_689 rfl (lv_at hl 4 rfl) ?_
  refine ll_T hF wd_l_L_101 (by decide) hX hA hl.1 (Nat.le_of_ble_eq_true rfl) dL_law_690 (by show 30 + 10 * t + 1 ≤ 601024 ∧ 20000 + 100 * t + 6 ≤ 7293034; omega) ?_
  have h9 : m2 19 0 = r := by rw [hr19, ex 19 (by decide) (by decide)]
  refine lv_iload hx hb dL_law_693 (lv_at hl 1 rfl) ?_
  refine lv_icmp_eq (tgt := 700) hx hb dL_law_695 (by decide) (fun c695 => ?_) (fun c695 => ?_)
  · skip
    refine lv_iload hx hb dL_law_700 (lv_at hl 1 rfl) ?_
    refine lv_if_ne (tgt := 717) hx hb dL_law_702 (by decide) (fun cN => ?_) (fun cN => ?_)
    · skip
      refine lv_goto (tgt := 1860) hx hb dL_law_717 (by decide) ?_
      refine W.widen (k := 30 + 10 * (t + 1)) (n := 20000 + 100 * (t + 1)) (by omega) (by omega) ?_
      exact hnext m2 ad1 f1 H locs ls (Inv_ext ex.sm hIK.1) hN2 hK2 h01 (by rw [kC_x ex]; exact hA) hS (lv_sub hl [2, 3, 4, 5, 6] rfl)
    · skip
      refine lv_aload_n hx hb dL_law_705 rfl (lv_at hl 5 rfl) ?_
      refine lv_iconst (v := 0) hx hb dL_law_706 (by decide) ?_
      refine va_lald hF.1 hF.2.1 hX.2.2.2.1 (mo_one hA.2.2.2) 0 0 rfl rfl (show vp_in (nI 0) 1 from vp_in_nI (by decide) (by decide)) dL_law_707 ?_
      refine bo_toV (v := .long (Int32.toInt64 r2)) (by rw [e1]; exact congrArg Value.long (hf1 cN)) ?_
      refine lv_iload hx hb dL_law_708 (lv_at hl 0 rfl) ?_
      refine lv_i2l (v := Int32.toInt64 r2) hx hb dL_law_710 rfl ?_
      refine W.lcmp hx hb dL_law_711 ?_
      refine bo_to (v := 0) (by simp [lg_cmp]) ?_
      refine lv_if_eq (tgt := 717) hx hb dL_law_712 (by decide) (fun cE => ?_) (fun cE => ?_)
      · skip
        refine lv_goto (tgt := 1860) hx hb dL_law_717 (by decide) ?_
        refine W.widen (k := 30 + 10 * (t + 1)) (n := 20000 + 100 * (t + 1)) (by omega) (by omega) ?_
        exact hnext m2 ad1 f1 H locs ls (Inv_ext ex.sm hIK.1) hN2 hK2 h01 (by rw [kC_x ex]; exact hA) hS (lv_sub hl [2, 3, 4, 5, 6] rfl)
      · skip
        exact absurd rfl cE
  · skip
    exact absurd h9 c695
theorem kl_waiting : wl_SW yL_waiting cL_waiting 4 [(0, 9, 12, 13)] 3 := ⟨wd_c_L_waiting, wd_t_L_waiting, wd_n_L, by decide, by decide +kernel⟩
set_option maxHeartbeats 4000000 in
set_option maxRecDepth 100000 in
theorem lc_waiting {p : Program} {l : Launch} {e : Env} {s : State} {m : MethodId} {below : List Frame} {meth : Method} {c : Code} {b L : Nat} {xs : Nat → Int32} {G : k_G} {o : Nat} {a : Nat → Nat} {w : Nat} {cJ : ClassId} {xa : Nat} {Q : State → Prop} {t : Nat} (hF : CallFix p m c cL_law 7 s #[Value.ref b] wsL_law RL) (hX : ll_F l G o a w cJ s) (hSc : va_X b L xs s s.heap) (hbl : b < s.heap.size) (hL : L ≤ 3072) (ht : 6 * t + 6 ≤ L) (hnext : ll_W p l e s m below meth c b G o a w cJ xa Q (t + 1) t 1860) : ll_W p l e s m below meth c b G o a w cJ xa Q t t 856 := by
  intro mm ad f0 H locs ls hI hN hK h00 hA hS hl
  subst h00
  have hx := hF.1
  have hb := hF.2.1
  have hK1 : sp_K mm < 512 := by omega
  have hbA : ¬ ll_0 s.heap.size b := Nat.not_le.mpr hbl
  refine lv_aload_n hx hb dL_law_856 rfl (lv_at hl 1 rfl) ?_
  refine lv_aload_n hx hb dL_law_857 rfl (lv_at hl 0 rfl) ?_
  refine lv_iload hx hb dL_law_858 (lv_at hl 4 rfl) ?_
  refine lv_iconst (v := 1) hx hb dL_law_860 (by decide) ?_
  refine lv_iadd hx hb dL_law_861 ?_
  refine bo_to (v := nI (6 * t + 1)) (nI_add (6 * t) 1) ?_
  refine va_sld hF.1 hF.2.1 hSc hbl hbA hS (vp_in_nI (by omega) (by omega)) dL_law_862 ?_
  refine bo_to (v := xs (6 * t + 1)) (by rw [nI_clamp (by omega)]) ?_
  refine lv_aload_n hx hb dL_law_863 rfl (lv_at hl 3 rfl) ?_
  refine ll_L (fr := 8) (lo := 133) (mc := 1) (ms := 6) (n := 3) (As := [.ref (ad 0 0), .int (xs (6 * t + 1)), .ref w]) (rest := []) hF (m_L_waiting l hX.1 G _ w cJ ad mm f0 (xs (6 * t + 1)) hI) kl_waiting wd_l_L_137 (by decide) hX hA hS rfl hl.1 rfl (Nat.le_of_ble_eq_true rfl) dL_law_864 (by show 30 + 10 * t + 1 ≤ 601024 ∧ 20000 + 100 * t + 6 ≤ 7293034; omega) (fun r ad1 ct1 f1 H locs hr hA hS => ?_)
  obtain ⟨hr19, hct, h01, hf1⟩ := hr
  replace hct : ct1 = k_C G ad1 (sp_ofway 9 mm (xs (6 * t + 1))).2 := hct
  subst hct
  replace h01 : ad1 0 0 = ad 0 0 := h01
  replace hr19 : r = (sp_ofway 9 mm (xs (6 * t + 1))).2 19 0 := hr19
  replace hf1 : r = 0 → f1 0 = Int32.toInt64 (sp_ofway 9 mm (xs (6 * t + 1))).1 := hf1
  refine lv_istore (lv' := [(5, .int r), (0, .ref b), (1, .ref (ad 0 0)), (2, .ref o), (3, .ref w), (4, .int (nI (6 * t)))]) hx hb dL_law_867 hl (by decide) rfl (fun ls hl => ?_)
  refine lv_aload_n hx hb dL_law_869 rfl (lv_at hl 3 rfl) ?_
  refine lv_aload_n hx hb dL_law_870 rfl (lv_at hl 1 rfl) ?_
  refine lv_iload hx hb dL_law_871 (lv_at hl 5 rfl) ?_
  refine lv_iconst (v := 1) hx hb dL_law_873 (by decide) ?_
  refine lv_iadd hx hb dL_law_874 ?_
  refine bo_to (v := nI (6 * t + 1)) (nI_add (6 * t) 1) ?_
  refine va_sld hF.1 hF.2.1 hSc hbl hbA hS (vp_in_nI (by omega) (by omega)) dL_law_875 ?_
  refine bo_to (v := xs (6 * t + 1)) (by rw [nI_clamp (by omega)]) ?_
  refine ll_R (fr := 1) (lo := 21) (n := 1) (As := [.int (xs (6 * t + 1))]) (rest := []) hF (m_X5_waiting l G.1 G.2.1 o a mm hX.2.2.2.2.2.2.1 (xs (6 * t + 1)) hI) ke_X5_waiting wd_l_L_139 (by decide) hX hA hS rfl hl.1 rfl (Nat.le_of_ble_eq_true rfl) dL_law_876 (by show 30 + 10 * t + 1 ≤ 601024 ∧ 20000 + 100 * t + 6 ≤ 7293034; omega) (fun r2 m2 H locs hr2 hA hS => ?_)
  have e1 : r2 = (sp_ofway 9 mm (xs (6 * t + 1))).1 := congrArg Prod.fst hr2
  have e2 : m2 = (sp_ofway 9 mm (xs (6 * t + 1))).2 := congrArg Prod.snd hr2
  have ex : eqx m2 (sp_ofway 9 mm (xs (6 * t + 1))).2 := by rw [e2]; exact eqx.rf _
  have hN2 : ∀ v, v < 40 → sp_N m2 v := fun v hv => by rw [e2]; exact (NS.ofway).N (hN v hv)
  have hIK : IK mm (sp_ofway 9 mm (xs (6 * t + 1))).2 := IK_ofway hI
  have hK2 : sp_K m2 ≤ t + 1 := by
    have h8 := hIK.2
    have h9 : sp_K m2 = sp_K (sp_ofway 9 mm (xs (6 * t + 1))).2 := by unfold sp_K; rw [ex 10 (by decide) (by decide)]
    omega
  refine lv_istore (lv' := [(6, .int r2), (5, .int r), (0, .ref b), (1, .ref (ad 0 0)), (2, .ref o), (3, .ref w), (4, .int (nI (6 * t)))]) hx hb dL_law_879 hl (by decide) rfl (fun ls hl => ?_)
  refine lv_aload_n hx hb dL_law_881 rfl (lv_at hl 4 rfl) ?_
  refine ll_T hF wd_l_L_101 (by decide) hX hA hl.1 (Nat.le_of_ble_eq_true rfl) dL_law_882 (by show 30 + 10 * t + 1 ≤ 601024 ∧ 20000 + 100 * t + 6 ≤ 7293034; omega) ?_
  have h9 : m2 19 0 = r := by rw [hr19, ex 19 (by decide) (by decide)]
  refine lv_iload hx hb dL_law_885 (lv_at hl 1 rfl) ?_
  refine lv_icmp_eq (tgt := 892) hx hb dL_law_887 (by decide) (fun c887 => ?_) (fun c887 => ?_)
  · skip
    refine lv_iload hx hb dL_law_892 (lv_at hl 1 rfl) ?_
    refine lv_if_ne (tgt := 909) hx hb dL_law_894 (by decide) (fun cN => ?_) (fun cN => ?_)
    · skip
      refine lv_goto (tgt := 1860) hx hb dL_law_909 (by decide) ?_
      refine W.widen (k := 30 + 10 * (t + 1)) (n := 20000 + 100 * (t + 1)) (by omega) (by omega) ?_
      exact hnext m2 ad1 f1 H locs ls (Inv_ext ex.sm hIK.1) hN2 hK2 h01 (by rw [kC_x ex]; exact hA) hS (lv_sub hl [2, 3, 4, 5, 6] rfl)
    · skip
      refine lv_aload_n hx hb dL_law_897 rfl (lv_at hl 5 rfl) ?_
      refine lv_iconst (v := 0) hx hb dL_law_898 (by decide) ?_
      refine va_lald hF.1 hF.2.1 hX.2.2.2.1 (mo_one hA.2.2.2) 0 0 rfl rfl (show vp_in (nI 0) 1 from vp_in_nI (by decide) (by decide)) dL_law_899 ?_
      refine bo_toV (v := .long (Int32.toInt64 r2)) (by rw [e1]; exact congrArg Value.long (hf1 cN)) ?_
      refine lv_iload hx hb dL_law_900 (lv_at hl 0 rfl) ?_
      refine lv_i2l (v := Int32.toInt64 r2) hx hb dL_law_902 rfl ?_
      refine W.lcmp hx hb dL_law_903 ?_
      refine bo_to (v := 0) (by simp [lg_cmp]) ?_
      refine lv_if_eq (tgt := 909) hx hb dL_law_904 (by decide) (fun cE => ?_) (fun cE => ?_)
      · skip
        refine lv_goto (tgt := 1860) hx hb dL_law_909 (by decide) ?_
        refine W.widen (k := 30 + 10 * (t + 1)) (n := 20000 + 100 * (t + 1)) (by omega) (by omega) ?_
        exact hnext m2 ad1 f1 H locs ls (Inv_ext ex.sm hIK.1) hN2 hK2 h01 (by rw [kC_x ex]; exact hA) hS (lv_sub hl [2, 3, 4, 5, 6] rfl)
      · skip
        exact absurd rfl cE
  · skip
    exact absurd h9 c887
theorem kl_staleTiles : wl_SW yL_staleTiles cL_staleTiles 4 [(0, 9, 12, 13)] 3 := ⟨wd_c_L_staleTiles, wd_t_L_staleTiles, wd_n_L, by decide, by decide +kernel⟩
set_option maxHeartbeats 4000000 in
set_option maxRecDepth 100000 in
theorem lc_staleTiles {p : Program} {l : Launch} {e : Env} {s : State} {m : MethodId} {below : List Frame} {meth : Method} {c : Code} {b L : Nat} {xs : Nat → Int32} {G : k_G} {o : Nat} {a : Nat → Nat} {w : Nat} {cJ : ClassId} {xa : Nat} {Q : State → Prop} {t : Nat} (hF : CallFix p m c cL_law 7 s #[Value.ref b] wsL_law RL) (hX : ll_F l G o a w cJ s) (hSc : va_X b L xs s s.heap) (hbl : b < s.heap.size) (hL : L ≤ 3072) (ht : 6 * t + 6 ≤ L) (hnext : ll_W p l e s m below meth c b G o a w cJ xa Q (t + 1) t 1860) : ll_W p l e s m below meth c b G o a w cJ xa Q t t 1332 := by
  intro mm ad f0 H locs ls hI hN hK h00 hA hS hl
  subst h00
  have hx := hF.1
  have hb := hF.2.1
  have hK1 : sp_K mm < 512 := by omega
  have hbA : ¬ ll_0 s.heap.size b := Nat.not_le.mpr hbl
  refine lv_aload_n hx hb dL_law_1332 rfl (lv_at hl 1 rfl) ?_
  refine lv_aload_n hx hb dL_law_1333 rfl (lv_at hl 0 rfl) ?_
  refine lv_iload hx hb dL_law_1334 (lv_at hl 4 rfl) ?_
  refine lv_iconst (v := 1) hx hb dL_law_1336 (by decide) ?_
  refine lv_iadd hx hb dL_law_1337 ?_
  refine bo_to (v := nI (6 * t + 1)) (nI_add (6 * t) 1) ?_
  refine va_sld hF.1 hF.2.1 hSc hbl hbA hS (vp_in_nI (by omega) (by omega)) dL_law_1338 ?_
  refine bo_to (v := xs (6 * t + 1)) (by rw [nI_clamp (by omega)]) ?_
  refine lv_aload_n hx hb dL_law_1339 rfl (lv_at hl 3 rfl) ?_
  refine ll_L (fr := 8) (lo := 135) (mc := 1) (ms := 6) (n := 3) (As := [.ref (ad 0 0), .int (xs (6 * t + 1)), .ref w]) (rest := []) hF (m_L_staleTiles l hX.1 G _ w cJ ad mm f0 (xs (6 * t + 1)) hI) kl_staleTiles wd_l_L_160 (by decide) hX hA hS rfl hl.1 rfl (Nat.le_of_ble_eq_true rfl) dL_law_1340 (by show 30 + 10 * t + 1 ≤ 601024 ∧ 20000 + 100 * t + 6 ≤ 7293034; omega) (fun r ad1 ct1 f1 H locs hr hA hS => ?_)
  obtain ⟨hr19, hct, h01, hf1⟩ := hr
  replace hct : ct1 = k_C G ad1 (sp_stl mm (xs (6 * t + 1))).2 := hct
  subst hct
  replace h01 : ad1 0 0 = ad 0 0 := h01
  replace hr19 : r = (sp_stl mm (xs (6 * t + 1))).2 19 0 := hr19
  replace hf1 : r = 0 → f1 0 = Int32.toInt64 (sp_stl mm (xs (6 * t + 1))).1 := hf1
  refine lv_istore (lv' := [(5, .int r), (0, .ref b), (1, .ref (ad 0 0)), (2, .ref o), (3, .ref w), (4, .int (nI (6 * t)))]) hx hb dL_law_1343 hl (by decide) rfl (fun ls hl => ?_)
  refine lv_aload_n hx hb dL_law_1345 rfl (lv_at hl 3 rfl) ?_
  refine lv_aload_n hx hb dL_law_1346 rfl (lv_at hl 1 rfl) ?_
  refine lv_iload hx hb dL_law_1347 (lv_at hl 5 rfl) ?_
  refine lv_iconst (v := 1) hx hb dL_law_1349 (by decide) ?_
  refine lv_iadd hx hb dL_law_1350 ?_
  refine bo_to (v := nI (6 * t + 1)) (nI_add (6 * t) 1) ?_
  refine va_sld hF.1 hF.2.1 hSc hbl hbA hS (vp_in_nI (by omega) (by omega)) dL_law_1351 ?_
  refine bo_to (v := xs (6 * t + 1)) (by rw [nI_clamp (by omega)]) ?_
  refine ll_R (fr := 4) (lo := 103) (n := 1) (As := [.int (xs (6 * t + 1))]) (rest := []) hF (m_X5_staleTiles l G.1 G.2.1 o a mm hX.2.2.2.2.2.2.1 (xs (6 * t + 1)) hI) ke_X5_staleTiles wd_l_L_162 (by decide) hX hA hS rfl hl.1 rfl (Nat.le_of_ble_eq_true rfl) dL_law_1352 (by show 30 + 10 * t + 1 ≤ 601024 ∧ 20000 + 100 * t + 6 ≤ 7293034; omega) (fun r2 m2 H locs hr2 hA hS => ?_)
  have e1 : r2 = (sp_stl mm (xs (6 * t + 1))).1 := congrArg Prod.fst hr2
  have e2 : m2 = (sp_stl mm (xs (6 * t + 1))).2 := congrArg Prod.snd hr2
  have ex : eqx m2 (sp_stl mm (xs (6 * t + 1))).2 := by rw [e2]; exact eqx.rf _
  have hN2 : ∀ v, v < 40 → sp_N m2 v := fun v hv => by rw [e2]; exact (NS.stl).N (hN v hv)
  have hIK : IK mm (sp_stl mm (xs (6 * t + 1))).2 := IK_stl hI
  have hK2 : sp_K m2 ≤ t + 1 := by
    have h8 := hIK.2
    have h9 : sp_K m2 = sp_K (sp_stl mm (xs (6 * t + 1))).2 := by unfold sp_K; rw [ex 10 (by decide) (by decide)]
    omega
  refine lv_istore (lv' := [(6, .int r2), (5, .int r), (0, .ref b), (1, .ref (ad 0 0)), (2, .ref o), (3, .ref w), (4, .int (nI (6 * t)))]) hx hb dL_law_1355 hl (by decide) rfl (fun ls hl => ?_)
  refine lv_aload_n hx hb dL_law_1357 rfl (lv_at hl 4 rfl) ?_
  refine ll_T hF wd_l_L_101 (by decide) hX hA hl.1 (Nat.le_of_ble_eq_true rfl) dL_law_1358 (by show 30 + 10 * t + 1 ≤ 601024 ∧ 20000 + 100 * t + 6 ≤ 7293034; omega) ?_
  have h9 : m2 19 0 = r := by rw [hr19, ex 19 (by decide) (by decide)]
  refine lv_iload hx hb dL_law_1361 (lv_at hl 1 rfl) ?_
  refine lv_icmp_eq (tgt := 1368) hx hb dL_law_1363 (by decide) (fun c1363 => ?_) (fun c1363 => ?_)
  · skip
    refine lv_iload hx hb dL_law_1368 (lv_at hl 1 rfl) ?_
    refine lv_if_ne (tgt := 1385) hx hb dL_law_1370 (by decide) (fun cN => ?_) (fun cN => ?_)
    · skip
      refine lv_goto (tgt := 1860) hx hb dL_law_1385 (by decide) ?_
      refine W.widen (k := 30 + 10 * (t + 1)) (n := 20000 + 100 * (t + 1)) (by omega) (by omega) ?_
      exact hnext m2 ad1 f1 H locs ls (Inv_ext ex.sm hIK.1) hN2 hK2 h01 (by rw [kC_x ex]; exact hA) hS (lv_sub hl [2, 3, 4, 5, 6] rfl)
    · skip
      refine lv_aload_n hx hb dL_law_1373 rfl (lv_at hl 5 rfl) ?_
      refine lv_iconst (v := 0) hx hb dL_law_1374 (by decide) ?_
      refine va_lald hF.1 hF.2.1 hX.2.2.2.1 (mo_one hA.2.2.2) 0 0 rfl rfl (show vp_in (nI 0) 1 from vp_in_nI (by decide) (by decide)) dL_law_1375 ?_
      refine bo_toV (v := .long (Int32.toInt64 r2)) (by rw [e1]; exact congrArg Value.long (hf1 cN)) ?_
      refine lv_iload hx hb dL_law_1376 (lv_at hl 0 rfl) ?_
      refine lv_i2l (v := Int32.toInt64 r2) hx hb dL_law_1378 rfl ?_
      refine W.lcmp hx hb dL_law_1379 ?_
      refine bo_to (v := 0) (by simp [lg_cmp]) ?_
      refine lv_if_eq (tgt := 1385) hx hb dL_law_1380 (by decide) (fun cE => ?_) (fun cE => ?_)
      · skip
        refine lv_goto (tgt := 1860) hx hb dL_law_1385 (by decide) ?_
        refine W.widen (k := 30 + 10 * (t + 1)) (n := 20000 + 100 * (t + 1)) (by omega) (by omega) ?_
        exact hnext m2 ad1 f1 H locs ls (Inv_ext ex.sm hIK.1) hN2 hK2 h01 (by rw [kC_x ex]; exact hA) hS (lv_sub hl [2, 3, 4, 5, 6] rfl)
      · skip
        exact absurd rfl cE
  · skip
    exact absurd h9 c1363
theorem kl_sightings : wl_SW yL_sightings cL_sightings 4 [(0, 9, 12, 13)] 3 := ⟨wd_c_L_sightings, wd_t_L_sightings, wd_n_L, by decide, by decide +kernel⟩
set_option maxHeartbeats 4000000 in
set_option maxRecDepth 100000 in
theorem lc_sightings {p : Program} {l : Launch} {e : Env} {s : State} {m : MethodId} {below : List Frame} {meth : Method} {c : Code} {b L : Nat} {xs : Nat → Int32} {G : k_G} {o : Nat} {a : Nat → Nat} {w : Nat} {cJ : ClassId} {xa : Nat} {Q : State → Prop} {t : Nat} (hF : CallFix p m c cL_law 7 s #[Value.ref b] wsL_law RL) (hX : ll_F l G o a w cJ s) (hSc : va_X b L xs s s.heap) (hbl : b < s.heap.size) (hL : L ≤ 3072) (ht : 6 * t + 6 ≤ L) (hnext : ll_W p l e s m below meth c b G o a w cJ xa Q (t + 1) t 1860) : ll_W p l e s m below meth c b G o a w cJ xa Q t t 1580 := by
  intro mm ad f0 H locs ls hI hN hK h00 hA hS hl
  subst h00
  have hx := hF.1
  have hb := hF.2.1
  have hK1 : sp_K mm < 512 := by omega
  have hbA : ¬ ll_0 s.heap.size b := Nat.not_le.mpr hbl
  refine lv_aload_n hx hb dL_law_1580 rfl (lv_at hl 1 rfl) ?_
  refine lv_aload_n hx hb dL_law_1581 rfl (lv_at hl 0 rfl) ?_
  refine lv_iload hx hb dL_law_1582 (lv_at hl 4 rfl) ?_
  refine lv_iconst (v := 1) hx hb dL_law_1584 (by decide) ?_
  refine lv_iadd hx hb dL_law_1585 ?_
  refine bo_to (v := nI (6 * t + 1)) (nI_add (6 * t) 1) ?_
  refine va_sld hF.1 hF.2.1 hSc hbl hbA hS (vp_in_nI (by omega) (by omega)) dL_law_1586 ?_
  refine bo_to (v := xs (6 * t + 1)) (by rw [nI_clamp (by omega)]) ?_
  refine lv_aload_n hx hb dL_law_1587 rfl (lv_at hl 3 rfl) ?_
  refine ll_L (fr := 8) (lo := 132) (mc := 1) (ms := 6) (n := 3) (As := [.ref (ad 0 0), .int (xs (6 * t + 1)), .ref w]) (rest := []) hF (m_L_sightings l hX.1 G _ w cJ ad mm f0 (xs (6 * t + 1)) hI) kl_sightings wd_l_L_173 (by decide) hX hA hS rfl hl.1 rfl (Nat.le_of_ble_eq_true rfl) dL_law_1588 (by show 30 + 10 * t + 1 ≤ 601024 ∧ 20000 + 100 * t + 6 ≤ 7293034; omega) (fun r ad1 ct1 f1 H locs hr hA hS => ?_)
  obtain ⟨hr19, hct, h01, hf1⟩ := hr
  replace hct : ct1 = k_C G ad1 (sp_sgt mm (xs (6 * t + 1))).2 := hct
  subst hct
  replace h01 : ad1 0 0 = ad 0 0 := h01
  replace hr19 : r = (sp_sgt mm (xs (6 * t + 1))).2 19 0 := hr19
  replace hf1 : r = 0 → f1 0 = Int32.toInt64 (sp_sgt mm (xs (6 * t + 1))).1 := hf1
  refine lv_istore (lv' := [(5, .int r), (0, .ref b), (1, .ref (ad 0 0)), (2, .ref o), (3, .ref w), (4, .int (nI (6 * t)))]) hx hb dL_law_1591 hl (by decide) rfl (fun ls hl => ?_)
  refine lv_aload_n hx hb dL_law_1593 rfl (lv_at hl 3 rfl) ?_
  refine lv_aload_n hx hb dL_law_1594 rfl (lv_at hl 1 rfl) ?_
  refine lv_iload hx hb dL_law_1595 (lv_at hl 5 rfl) ?_
  refine lv_iconst (v := 1) hx hb dL_law_1597 (by decide) ?_
  refine lv_iadd hx hb dL_law_1598 ?_
  refine bo_to (v := nI (6 * t + 1)) (nI_add (6 * t) 1) ?_
  refine va_sld hF.1 hF.2.1 hSc hbl hbA hS (vp_in_nI (by omega) (by omega)) dL_law_1599 ?_
  refine bo_to (v := xs (6 * t + 1)) (by rw [nI_clamp (by omega)]) ?_
  refine ll_R (fr := 1) (lo := 21) (n := 1) (As := [.int (xs (6 * t + 1))]) (rest := []) hF (m_X5_sightings l G.1 G.2.1 o a mm hX.2.2.2.2.2.2.1 (xs (6 * t + 1)) hI) ke_X5_sightings wd_l_L_175 (by decide) hX hA hS rfl hl.1 rfl (Nat.le_of_ble_eq_true rfl) dL_law_1600 (by show 30 + 10 * t + 1 ≤ 601024 ∧ 20000 + 100 * t + 6 ≤ 7293034; omega) (fun r2 m2 H locs hr2 hA hS => ?_)
  rw [← sgt_of hI hN] at hr2
  have e1 : r2 = (sp_sgt mm (xs (6 * t + 1))).1 := congrArg Prod.fst hr2
  have e2 : m2 = (sp_sgt mm (xs (6 * t + 1))).2 := congrArg Prod.snd hr2
  have ex : eqx m2 (sp_sgt mm (xs (6 * t + 1))).2 := by rw [e2]; exact eqx.rf _
  have hN2 : ∀ v, v < 40 → sp_N m2 v := fun v hv => by rw [e2]; exact (NS.sgt).N (hN v hv)
  have hIK : IK mm (sp_sgt mm (xs (6 * t + 1))).2 := IK_sgt hI
  have hK2 : sp_K m2 ≤ t + 1 := by
    have h8 := hIK.2
    have h9 : sp_K m2 = sp_K (sp_sgt mm (xs (6 * t + 1))).2 := by unfold sp_K; rw [ex 10 (by decide) (by decide)]
    omega
  refine lv_istore (lv' := [(6, .int r2), (5, .int r), (0, .ref b), (1, .ref (ad 0 0)), (2, .ref o), (3, .ref w), (4, .int (nI (6 * t)))]) hx hb dL_law_1603 hl (by decide) rfl (fun ls hl => ?_)
  refine lv_aload_n hx hb dL_law_1605 rfl (lv_at hl 4 rfl) ?_
  refine ll_T hF wd_l_L_101 (by decide) hX hA hl.1 (Nat.le_of_ble_eq_true rfl) dL_law_1606 (by show 30 + 10 * t + 1 ≤ 601024 ∧ 20000 + 100 * t + 6 ≤ 7293034; omega) ?_
  have h9 : m2 19 0 = r := by rw [hr19, ex 19 (by decide) (by decide)]
  refine lv_iload hx hb dL_law_1609 (lv_at hl 1 rfl) ?_
  refine lv_icmp_eq (tgt := 1616) hx hb dL_law_1611 (by decide) (fun c1611 => ?_) (fun c1611 => ?_)
  · skip
    refine lv_iload hx hb dL_law_1616 (lv_at hl 1 rfl) ?_
    refine lv_if_ne (tgt := 1633) hx hb dL_law_1618 (by decide) (fun cN => ?_) (fun cN => ?_)
    · skip
      refine lv_goto (tgt := 1860) hx hb dL_law_1633 (by decide) ?_
      refine W.widen (k := 30 + 10 * (t + 1)) (n := 20000 + 100 * (t + 1)) (by omega) (by omega) ?_
      exact hnext m2 ad1 f1 H locs ls (Inv_ext ex.sm hIK.1) hN2 hK2 h01 (by rw [kC_x ex]; exact hA) hS (lv_sub hl [2, 3, 4, 5, 6] rfl)
    · skip
      refine lv_aload_n hx hb dL_law_1621 rfl (lv_at hl 5 rfl) ?_
      refine lv_iconst (v := 0) hx hb dL_law_1622 (by decide) ?_
      refine va_lald hF.1 hF.2.1 hX.2.2.2.1 (mo_one hA.2.2.2) 0 0 rfl rfl (show vp_in (nI 0) 1 from vp_in_nI (by decide) (by decide)) dL_law_1623 ?_
      refine bo_toV (v := .long (Int32.toInt64 r2)) (by rw [e1]; exact congrArg Value.long (hf1 cN)) ?_
      refine lv_iload hx hb dL_law_1624 (lv_at hl 0 rfl) ?_
      refine lv_i2l (v := Int32.toInt64 r2) hx hb dL_law_1626 rfl ?_
      refine W.lcmp hx hb dL_law_1627 ?_
      refine bo_to (v := 0) (by simp [lg_cmp]) ?_
      refine lv_if_eq (tgt := 1633) hx hb dL_law_1628 (by decide) (fun cE => ?_) (fun cE => ?_)
      · skip
        refine lv_goto (tgt := 1860) hx hb dL_law_1633 (by decide) ?_
        refine W.widen (k := 30 + 10 * (t + 1)) (n := 20000 + 100 * (t + 1)) (by omega) (by omega) ?_
        exact hnext m2 ad1 f1 H locs ls (Inv_ext ex.sm hIK.1) hN2 hK2 h01 (by rw [kC_x ex]; exact hA) hS (lv_sub hl [2, 3, 4, 5, 6] rfl)
      · skip
        exact absurd rfl cE
  · skip
    exact absurd h9 c1611
theorem kl_dear : wl_SW yL_dear cL_dear 4 [(0, 9, 12, 13)] 3 := ⟨wd_c_L_dear, wd_t_L_dear, wd_n_L, by decide, by decide +kernel⟩
set_option maxHeartbeats 4000000 in
set_option maxRecDepth 100000 in
theorem lc_dear {p : Program} {l : Launch} {e : Env} {s : State} {m : MethodId} {below : List Frame} {meth : Method} {c : Code} {b L : Nat} {xs : Nat → Int32} {G : k_G} {o : Nat} {a : Nat → Nat} {w : Nat} {cJ : ClassId} {xa : Nat} {Q : State → Prop} {t : Nat} (hF : CallFix p m c cL_law 7 s #[Value.ref b] wsL_law RL) (hX : ll_F l G o a w cJ s) (hSc : va_X b L xs s s.heap) (hbl : b < s.heap.size) (hL : L ≤ 3072) (ht : 6 * t + 6 ≤ L) (hnext : ll_W p l e s m below meth c b G o a w cJ xa Q (t + 1) t 1860) : ll_W p l e s m below meth c b G o a w cJ xa Q t t 1636 := by
  intro mm ad f0 H locs ls hI hN hK h00 hA hS hl
  subst h00
  have hx := hF.1
  have hb := hF.2.1
  have hK1 : sp_K mm < 512 := by omega
  have hbA : ¬ ll_0 s.heap.size b := Nat.not_le.mpr hbl
  refine lv_aload_n hx hb dL_law_1636 rfl (lv_at hl 1 rfl) ?_
  refine lv_aload_n hx hb dL_law_1637 rfl (lv_at hl 0 rfl) ?_
  refine lv_iload hx hb dL_law_1638 (lv_at hl 4 rfl) ?_
  refine lv_iconst (v := 1) hx hb dL_law_1640 (by decide) ?_
  refine lv_iadd hx hb dL_law_1641 ?_
  refine bo_to (v := nI (6 * t + 1)) (nI_add (6 * t) 1) ?_
  refine va_sld hF.1 hF.2.1 hSc hbl hbA hS (vp_in_nI (by omega) (by omega)) dL_law_1642 ?_
  refine bo_to (v := xs (6 * t + 1)) (by rw [nI_clamp (by omega)]) ?_
  refine lv_aload_n hx hb dL_law_1643 rfl (lv_at hl 3 rfl) ?_
  refine ll_L (fr := 8) (lo := 132) (mc := 1) (ms := 6) (n := 3) (As := [.ref (ad 0 0), .int (xs (6 * t + 1)), .ref w]) (rest := []) hF (m_L_dear l hX.1 G _ w cJ ad mm f0 (xs (6 * t + 1)) hI) kl_dear wd_l_L_176 (by decide) hX hA hS rfl hl.1 rfl (Nat.le_of_ble_eq_true rfl) dL_law_1644 (by show 30 + 10 * t + 1 ≤ 601024 ∧ 20000 + 100 * t + 6 ≤ 7293034; omega) (fun r ad1 ct1 f1 H locs hr hA hS => ?_)
  obtain ⟨hr19, hct, h01, hf1⟩ := hr
  replace hct : ct1 = k_C G ad1 (sp_dear mm (xs (6 * t + 1))).2 := hct
  subst hct
  replace h01 : ad1 0 0 = ad 0 0 := h01
  replace hr19 : r = (sp_dear mm (xs (6 * t + 1))).2 19 0 := hr19
  replace hf1 : r = 0 → f1 0 = Int32.toInt64 (sp_dear mm (xs (6 * t + 1))).1 := hf1
  refine lv_istore (lv' := [(5, .int r), (0, .ref b), (1, .ref (ad 0 0)), (2, .ref o), (3, .ref w), (4, .int (nI (6 * t)))]) hx hb dL_law_1647 hl (by decide) rfl (fun ls hl => ?_)
  refine lv_aload_n hx hb dL_law_1649 rfl (lv_at hl 3 rfl) ?_
  refine lv_aload_n hx hb dL_law_1650 rfl (lv_at hl 1 rfl) ?_
  refine lv_iload hx hb dL_law_1651 (lv_at hl 5 rfl) ?_
  refine lv_iconst (v := 1) hx hb dL_law_1653 (by decide) ?_
  refine lv_iadd hx hb dL_law_1654 ?_
  refine bo_to (v := nI (6 * t + 1)) (nI_add (6 * t) 1) ?_
  refine va_sld hF.1 hF.2.1 hSc hbl hbA hS (vp_in_nI (by omega) (by omega)) dL_law_1655 ?_
  refine bo_to (v := xs (6 * t + 1)) (by rw [nI_clamp (by omega)]) ?_
  refine ll_R (fr := 2) (lo := 46) (n := 1) (As := [.int (xs (6 * t + 1))]) (rest := []) hF (m_X5_dear l G.1 G.2.1 o a mm hX.2.2.2.2.2.2.1 (xs (6 * t + 1)) hI hN) ke_X5_dear wd_l_L_178 (by decide) hX hA hS rfl hl.1 rfl (Nat.le_of_ble_eq_true rfl) dL_law_1656 (by show 30 + 10 * t + 1 ≤ 601024 ∧ 20000 + 100 * t + 6 ≤ 7293034; omega) (fun r2 m2 H locs hr2 hA hS => ?_)
  have e1 : r2 = (sp_dear mm (xs (6 * t + 1))).1 := congrArg Prod.fst hr2
  have e2 : m2 = (sp_dear mm (xs (6 * t + 1))).2 := congrArg Prod.snd hr2
  have ex : eqx m2 (sp_dear mm (xs (6 * t + 1))).2 := by rw [e2]; exact eqx.rf _
  have hN2 : ∀ v, v < 40 → sp_N m2 v := fun v hv => by rw [e2]; exact (NS.dear).N (hN v hv)
  have hIK : IK mm (sp_dear mm (xs (6 * t + 1))).2 := IK_dear hI
  have hK2 : sp_K m2 ≤ t + 1 := by
    have h8 := hIK.2
    have h9 : sp_K m2 = sp_K (sp_dear mm (xs (6 * t + 1))).2 := by unfold sp_K; rw [ex 10 (by decide) (by decide)]
    omega
  refine lv_istore (lv' := [(6, .int r2), (5, .int r), (0, .ref b), (1, .ref (ad 0 0)), (2, .ref o), (3, .ref w), (4, .int (nI (6 * t)))]) hx hb dL_law_1659 hl (by decide) rfl (fun ls hl => ?_)
  refine lv_aload_n hx hb dL_law_1661 rfl (lv_at hl 4 rfl) ?_
  refine ll_T hF wd_l_L_101 (by decide) hX hA hl.1 (Nat.le_of_ble_eq_true rfl) dL_law_1662 (by show 30 + 10 * t + 1 ≤ 601024 ∧ 20000 + 100 * t + 6 ≤ 7293034; omega) ?_
  have h9 : m2 19 0 = r := by rw [hr19, ex 19 (by decide) (by decide)]
  refine lv_iload hx hb dL_law_1665 (lv_at hl 1 rfl) ?_
  refine lv_icmp_eq (tgt := 1672) hx hb dL_law_1667 (by decide) (fun c1667 => ?_) (fun c1667 => ?_)
  · skip
    refine lv_iload hx hb dL_law_1672 (lv_at hl 1 rfl) ?_
    refine lv_if_ne (tgt := 1689) hx hb dL_law_1674 (by decide) (fun cN => ?_) (fun cN => ?_)
    · skip
      refine lv_goto (tgt := 1860) hx hb dL_law_1689 (by decide) ?_
      refine W.widen (k := 30 + 10 * (t + 1)) (n := 20000 + 100 * (t + 1)) (by omega) (by omega) ?_
      exact hnext m2 ad1 f1 H locs ls (Inv_ext ex.sm hIK.1) hN2 hK2 h01 (by rw [kC_x ex]; exact hA) hS (lv_sub hl [2, 3, 4, 5, 6] rfl)
    · skip
      refine lv_aload_n hx hb dL_law_1677 rfl (lv_at hl 5 rfl) ?_
      refine lv_iconst (v := 0) hx hb dL_law_1678 (by decide) ?_
      refine va_lald hF.1 hF.2.1 hX.2.2.2.1 (mo_one hA.2.2.2) 0 0 rfl rfl (show vp_in (nI 0) 1 from vp_in_nI (by decide) (by decide)) dL_law_1679 ?_
      refine bo_toV (v := .long (Int32.toInt64 r2)) (by rw [e1]; exact congrArg Value.long (hf1 cN)) ?_
      refine lv_iload hx hb dL_law_1680 (lv_at hl 0 rfl) ?_
      refine lv_i2l (v := Int32.toInt64 r2) hx hb dL_law_1682 rfl ?_
      refine W.lcmp hx hb dL_law_1683 ?_
      refine bo_to (v := 0) (by simp [lg_cmp]) ?_
      refine lv_if_eq (tgt := 1689) hx hb dL_law_1684 (by decide) (fun cE => ?_) (fun cE => ?_)
      · skip
        refine lv_goto (tgt := 1860) hx hb dL_law_1689 (by decide) ?_
        refine W.widen (k := 30 + 10 * (t + 1)) (n := 20000 + 100 * (t + 1)) (by omega) (by omega) ?_
        exact hnext m2 ad1 f1 H locs ls (Inv_ext ex.sm hIK.1) hN2 hK2 h01 (by rw [kC_x ex]; exact hA) hS (lv_sub hl [2, 3, 4, 5, 6] rfl)
      · skip
        exact absurd rfl cE
  · skip
    exact absurd h9 c1667
