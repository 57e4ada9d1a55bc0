theorem dL_law_620 : decode cL_law 620 = .ok (.aload_n 1, 1) := by decide +kernel
theorem dL_law_621 : decode cL_law 621 = .ok (.aload_n 0, 1) := by decide +kernel
theorem dL_law_622 : decode cL_law 622 = .ok (.iload 5, 2) := by decide +kernel
theorem dL_law_624 : decode cL_law 624 = .ok (.iconst 1, 1) := by decide +kernel
theorem dL_law_625 : decode cL_law 625 = .ok (.iadd, 1) := by decide +kernel
theorem dL_law_626 : decode cL_law 626 = .ok (.iaload, 1) := by decide +kernel
theorem dL_law_627 : decode cL_law 627 = .ok (.aload_n 0, 1) := by decide +kernel
theorem dL_law_628 : decode cL_law 628 = .ok (.iload 5, 2) := by decide +kernel
theorem dL_law_630 : decode cL_law 630 = .ok (.iconst 2, 1) := by decide +kernel
theorem dL_law_631 : decode cL_law 631 = .ok (.iadd, 1) := by decide +kernel
theorem dL_law_632 : decode cL_law 632 = .ok (.iaload, 1) := by decide +kernel
theorem dL_law_633 : decode cL_law 633 = .ok (.aload_n 0, 1) := by decide +kernel
theorem dL_law_634 : decode cL_law 634 = .ok (.iload 5, 2) := by decide +kernel
theorem dL_law_636 : decode cL_law 636 = .ok (.iconst 3, 1) := by decide +kernel
theorem dL_law_637 : decode cL_law 637 = .ok (.iadd, 1) := by decide +kernel
theorem dL_law_638 : decode cL_law 638 = .ok (.iaload, 1) := by decide +kernel
theorem dL_law_639 : decode cL_law 639 = .ok (.aload_n 3, 1) := by decide +kernel
theorem dL_law_640 : decode cL_law 640 = .ok (.invokestatic 192, 3) := by decide +kernel
theorem dL_law_643 : decode cL_law 643 = .ok (.istore 6, 2) := by decide +kernel
theorem dL_law_645 : decode cL_law 645 = .ok (.aload_n 2, 1) := by decide +kernel
theorem dL_law_646 : decode cL_law 646 = .ok (.aload_n 0, 1) := by decide +kernel
theorem dL_law_647 : decode cL_law 647 = .ok (.iload 5, 2) := by decide +kernel
theorem dL_law_649 : decode cL_law 649 = .ok (.iconst 1, 1) := by decide +kernel
theorem dL_law_650 : decode cL_law 650 = .ok (.iadd, 1) := by decide +kernel
theorem dL_law_651 : decode cL_law 651 = .ok (.iaload, 1) := by decide +kernel
theorem dL_law_652 : decode cL_law 652 = .ok (.aload_n 0, 1) := by decide +kernel
theorem dL_law_653 : decode cL_law 653 = .ok (.iload 5, 2) := by decide +kernel
theorem dL_law_655 : decode cL_law 655 = .ok (.iconst 2, 1) := by decide +kernel
theorem dL_law_656 : decode cL_law 656 = .ok (.iadd, 1) := by decide +kernel
theorem dL_law_657 : decode cL_law 657 = .ok (.iaload, 1) := by decide +kernel
theorem dL_law_658 : decode cL_law 658 = .ok (.aload_n 0, 1) := by decide +kernel
theorem dL_law_659 : decode cL_law 659 = .ok (.iload 5, 2) := by decide +kernel
theorem dL_law_661 : decode cL_law 661 = .ok (.iconst 3, 1) := by decide +kernel
theorem dL_law_662 : decode cL_law 662 = .ok (.iadd, 1) := by decide +kernel
theorem dL_law_663 : decode cL_law 663 = .ok (.iaload, 1) := by decide +kernel
theorem dL_law_664 : decode cL_law 664 = .ok (.invokevirtual 194, 3) := by decide +kernel
theorem dL_law_667 : decode cL_law 667 = .ok (.istore 7, 2) := by decide +kernel
theorem dL_law_669 : decode cL_law 669 = .ok (.aload_n 2, 1) := by decide +kernel
theorem dL_law_670 : decode cL_law 670 = .ok (.invokevirtual 177, 3) := by decide +kernel
theorem dL_law_673 : decode cL_law 673 = .ok (.iload 6, 2) := by decide +kernel
theorem dL_law_675 : decode cL_law 675 = .ok (.if_icmp .eq 5, 3) := by decide +kernel
theorem dL_law_680 : decode cL_law 680 = .ok (.iload 6, 2) := by decide +kernel
theorem dL_law_682 : decode cL_law 682 = .ok (.ifCond .ne 15, 3) := by decide +kernel
theorem dL_law_697 : decode cL_law 697 = .ok (.goto 2539, 3) := by decide +kernel
theorem dL_law_700 : decode cL_law 700 = .ok (.aload_n 1, 1) := by decide +kernel
theorem dL_law_701 : decode cL_law 701 = .ok (.aload_n 0, 1) := by decide +kernel
theorem dL_law_702 : decode cL_law 702 = .ok (.iload 5, 2) := by decide +kernel
theorem dL_law_704 : decode cL_law 704 = .ok (.iconst 1, 1) := by decide +kernel
theorem dL_law_705 : decode cL_law 705 = .ok (.iadd, 1) := by decide +kernel
theorem dL_law_706 : decode cL_law 706 = .ok (.iaload, 1) := by decide +kernel
theorem dL_law_707 : decode cL_law 707 = .ok (.aload_n 0, 1) := by decide +kernel
theorem dL_law_708 : decode cL_law 708 = .ok (.iload 5, 2) := by decide +kernel
theorem dL_law_710 : decode cL_law 710 = .ok (.iconst 2, 1) := by decide +kernel
theorem dL_law_711 : decode cL_law 711 = .ok (.iadd, 1) := by decide +kernel
theorem dL_law_712 : decode cL_law 712 = .ok (.iaload, 1) := by decide +kernel
theorem dL_law_713 : decode cL_law 713 = .ok (.aload_n 0, 1) := by decide +kernel
theorem dL_law_714 : decode cL_law 714 = .ok (.iload 5, 2) := by decide +kernel
theorem dL_law_716 : decode cL_law 716 = .ok (.iconst 3, 1) := by decide +kernel
theorem dL_law_717 : decode cL_law 717 = .ok (.iadd, 1) := by decide +kernel
theorem dL_law_718 : decode cL_law 718 = .ok (.iaload, 1) := by decide +kernel
theorem dL_law_719 : decode cL_law 719 = .ok (.aload_n 0, 1) := by decide +kernel
theorem dL_law_720 : decode cL_law 720 = .ok (.iload 5, 2) := by decide +kernel
theorem dL_law_722 : decode cL_law 722 = .ok (.iconst 4, 1) := by decide +kernel
theorem dL_law_723 : decode cL_law 723 = .ok (.iadd, 1) := by decide +kernel
theorem dL_law_724 : decode cL_law 724 = .ok (.iaload, 1) := by decide +kernel
theorem dL_law_725 : decode cL_law 725 = .ok (.aload_n 3, 1) := by decide +kernel
theorem dL_law_726 : decode cL_law 726 = .ok (.invokestatic 195, 3) := by decide +kernel
theorem dL_law_729 : decode cL_law 729 = .ok (.istore 6, 2) := by decide +kernel
theorem dL_law_731 : decode cL_law 731 = .ok (.aload_n 2, 1) := by decide +kernel
theorem dL_law_732 : decode cL_law 732 = .ok (.aload_n 0, 1) := by decide +kernel
theorem dL_law_733 : decode cL_law 733 = .ok (.iload 5, 2) := by decide +kernel
theorem dL_law_735 : decode cL_law 735 = .ok (.iconst 1, 1) := by decide +kernel
theorem dL_law_736 : decode cL_law 736 = .ok (.iadd, 1) := by decide +kernel
theorem dL_law_737 : decode cL_law 737 = .ok (.iaload, 1) := by decide +kernel
theorem dL_law_738 : decode cL_law 738 = .ok (.aload_n 0, 1) := by decide +kernel
theorem dL_law_739 : decode cL_law 739 = .ok (.iload 5, 2) := by decide +kernel
theorem dL_law_741 : decode cL_law 741 = .ok (.iconst 2, 1) := by decide +kernel
theorem dL_law_742 : decode cL_law 742 = .ok (.iadd, 1) := by decide +kernel
theorem dL_law_743 : decode cL_law 743 = .ok (.iaload, 1) := by decide +kernel
theorem dL_law_744 : decode cL_law 744 = .ok (.aload_n 0, 1) := by decide +kernel
theorem dL_law_745 : decode cL_law 745 = .ok (.iload 5, 2) := by decide +kernel
theorem dL_law_747 : decode cL_law 747 = .ok (.iconst 3, 1) := by decide +kernel
theorem dL_law_748 : decode cL_law 748 = .ok (.iadd, 1) := by decide +kernel
theorem dL_law_749 : decode cL_law 749 = .ok (.iaload, 1) := by decide +kernel
theorem dL_law_750 : decode cL_law 750 = .ok (.aload_n 0, 1) := by decide +kernel
theorem dL_law_751 : decode cL_law 751 = .ok (.iload 5, 2) := by decide +kernel
theorem dL_law_753 : decode cL_law 753 = .ok (.iconst 4, 1) := by decide +kernel
theorem dL_law_754 : decode cL_law 754 = .ok (.iadd, 1) := by decide +kernel
theorem dL_law_755 : decode cL_law 755 = .ok (.iaload, 1) := by decide +kernel
theorem dL_law_756 : decode cL_law 756 = .ok (.invokevirtual 198, 3) := by decide +kernel
theorem dL_law_759 : decode cL_law 759 = .ok (.istore 7, 2) := by decide +kernel
theorem dL_law_761 : decode cL_law 761 = .ok (.aload_n 2, 1) := by decide +kernel
theorem dL_law_762 : decode cL_law 762 = .ok (.invokevirtual 177, 3) := by decide +kernel
theorem dL_law_765 : decode cL_law 765 = .ok (.iload 6, 2) := by decide +kernel
theorem dL_law_767 : decode cL_law 767 = .ok (.if_icmp .eq 5, 3) := by decide +kernel
theorem dL_law_772 : decode cL_law 772 = .ok (.iload 6, 2) := by decide +kernel
theorem dL_law_774 : decode cL_law 774 = .ok (.ifCond .ne 15, 3) := by decide +kernel
theorem dL_law_789 : decode cL_law 789 = .ok (.goto 2447, 3) := by decide +kernel
theorem dL_law_792 : decode cL_law 792 = .ok (.aload_n 1, 1) := by decide +kernel
theorem dL_law_793 : decode cL_law 793 = .ok (.aload_n 0, 1) := by decide +kernel
theorem dL_law_794 : decode cL_law 794 = .ok (.iload 5, 2) := by decide +kernel
theorem dL_law_796 : decode cL_law 796 = .ok (.iconst 1, 1) := by decide +kernel
theorem dL_law_797 : decode cL_law 797 = .ok (.iadd, 1) := by decide +kernel
theorem dL_law_798 : decode cL_law 798 = .ok (.iaload, 1) := by decide +kernel
theorem dL_law_799 : decode cL_law 799 = .ok (.aload_n 0, 1) := by decide +kernel
theorem dL_law_800 : decode cL_law 800 = .ok (.iload 5, 2) := by decide +kernel
theorem dL_law_802 : decode cL_law 802 = .ok (.iconst 2, 1) := by decide +kernel
theorem dL_law_803 : decode cL_law 803 = .ok (.iadd, 1) := by decide +kernel
theorem dL_law_804 : decode cL_law 804 = .ok (.iaload, 1) := by decide +kernel
theorem dL_law_805 : decode cL_law 805 = .ok (.aload_n 0, 1) := by decide +kernel
theorem dL_law_806 : decode cL_law 806 = .ok (.iload 5, 2) := by decide +kernel
theorem dL_law_808 : decode cL_law 808 = .ok (.iconst 3, 1) := by decide +kernel
theorem dL_law_809 : decode cL_law 809 = .ok (.iadd, 1) := by decide +kernel
theorem dL_law_810 : decode cL_law 810 = .ok (.iaload, 1) := by decide +kernel
theorem dL_law_811 : decode cL_law 811 = .ok (.aload_n 3, 1) := by decide +kernel
theorem dL_law_812 : decode cL_law 812 = .ok (.invokestatic 199, 3) := by decide +kernel
theorem dL_law_815 : decode cL_law 815 = .ok (.istore 6, 2) := by decide +kernel
theorem dL_law_817 : decode cL_law 817 = .ok (.aload_n 2, 1) := by decide +kernel
theorem dL_law_818 : decode cL_law 818 = .ok (.aload_n 0, 1) := by decide +kernel
theorem dL_law_819 : decode cL_law 819 = .ok (.iload 5, 2) := by decide +kernel
theorem dL_law_821 : decode cL_law 821 = .ok (.iconst 1, 1) := by decide +kernel
theorem dL_law_822 : decode cL_law 822 = .ok (.iadd, 1) := by decide +kernel
theorem dL_law_823 : decode cL_law 823 = .ok (.iaload, 1) := by decide +kernel
theorem dL_law_824 : decode cL_law 824 = .ok (.aload_n 0, 1) := by decide +kernel
theorem dL_law_825 : decode cL_law 825 = .ok (.iload 5, 2) := by decide +kernel
theorem dL_law_827 : decode cL_law 827 = .ok (.iconst 2, 1) := by decide +kernel
theorem dL_law_828 : decode cL_law 828 = .ok (.iadd, 1) := by decide +kernel
theorem dL_law_829 : decode cL_law 829 = .ok (.iaload, 1) := by decide +kernel
theorem dL_law_830 : decode cL_law 830 = .ok (.aload_n 0, 1) := by decide +kernel
theorem dL_law_831 : decode cL_law 831 = .ok (.iload 5, 2) := by decide +kernel
theorem dL_law_833 : decode cL_law 833 = .ok (.iconst 3, 1) := by decide +kernel
theorem dL_law_834 : decode cL_law 834 = .ok (.iadd, 1) := by decide +kernel
theorem dL_law_835 : decode cL_law 835 = .ok (.iaload, 1) := by decide +kernel
theorem dL_law_836 : decode cL_law 836 = .ok (.invokevirtual 201, 3) := by decide +kernel
theorem dL_law_839 : decode cL_law 839 = .ok (.istore 7, 2) := by decide +kernel
theorem dL_law_841 : decode cL_law 841 = .ok (.aload_n 2, 1) := by decide +kernel
theorem dL_law_842 : decode cL_law 842 = .ok (.invokevirtual 177, 3) := by decide +kernel
theorem dL_law_845 : decode cL_law 845 = .ok (.iload 6, 2) := by decide +kernel
theorem dL_law_847 : decode cL_law 847 = .ok (.if_icmp .eq 5, 3) := by decide +kernel
theorem dL_law_852 : decode cL_law 852 = .ok (.iload 6, 2) := by decide +kernel
theorem dL_law_854 : decode cL_law 854 = .ok (.ifCond .ne 15, 3) := by decide +kernel
theorem dL_law_869 : decode cL_law 869 = .ok (.goto 2367, 3) := by decide +kernel
theorem dL_law_872 : decode cL_law 872 = .ok (.aload_n 1, 1) := by decide +kernel
theorem dL_law_873 : decode cL_law 873 = .ok (.aload_n 0, 1) := by decide +kernel
theorem dL_law_874 : decode cL_law 874 = .ok (.iload 5, 2) := by decide +kernel
theorem dL_law_876 : decode cL_law 876 = .ok (.iconst 1, 1) := by decide +kernel
theorem dL_law_877 : decode cL_law 877 = .ok (.iadd, 1) := by decide +kernel
theorem dL_law_878 : decode cL_law 878 = .ok (.iaload, 1) := by decide +kernel
theorem dL_law_879 : decode cL_law 879 = .ok (.aload_n 3, 1) := by decide +kernel
theorem dL_law_880 : decode cL_law 880 = .ok (.invokestatic 202, 3) := by decide +kernel
theorem dL_law_883 : decode cL_law 883 = .ok (.istore 6, 2) := by decide +kernel
theorem dL_law_885 : decode cL_law 885 = .ok (.aload_n 2, 1) := by decide +kernel
theorem dL_law_886 : decode cL_law 886 = .ok (.aload_n 0, 1) := by decide +kernel
theorem dL_law_887 : decode cL_law 887 = .ok (.iload 5, 2) := by decide +kernel
theorem dL_law_889 : decode cL_law 889 = .ok (.iconst 1, 1) := by decide +kernel
theorem dL_law_890 : decode cL_law 890 = .ok (.iadd, 1) := by decide +kernel
theorem dL_law_891 : decode cL_law 891 = .ok (.iaload, 1) := by decide +kernel
theorem dL_law_892 : decode cL_law 892 = .ok (.invokevirtual 205, 3) := by decide +kernel
theorem dL_law_895 : decode cL_law 895 = .ok (.istore 7, 2) := by decide +kernel
theorem dL_law_897 : decode cL_law 897 = .ok (.aload_n 2, 1) := by decide +kernel
theorem dL_law_898 : decode cL_law 898 = .ok (.invokevirtual 177, 3) := by decide +kernel
theorem dL_law_901 : decode cL_law 901 = .ok (.iload 6, 2) := by decide +kernel
theorem dL_law_903 : decode cL_law 903 = .ok (.if_icmp .eq 5, 3) := by decide +kernel
theorem dL_law_908 : decode cL_law 908 = .ok (.iload 6, 2) := by decide +kernel
theorem dL_law_910 : decode cL_law 910 = .ok (.ifCond .ne 15, 3) := by decide +kernel
theorem dL_law_925 : decode cL_law 925 = .ok (.goto 2311, 3) := by decide +kernel
set_option maxHeartbeats 4000000 in
set_option maxRecDepth 100000 in
theorem lc_4 {p : Program} {l : Launch} {e : Env} {s : State} {m : MethodId} {below : List Frame} {meth : Method} {c : Code} {b : Nat} {xs : Nat → Int32} {de : Nat} {A : Nat → Prop} (C0 : LX p l s m meth c b xs de A) {dC : Nat → ClassId} {dI : Nat → Nat → Nat} {ox pl ru sh sp sl gr re pr ga rp bo fa gpl gin bbe bdi om mt qu lv mi ml mss rn sw mf msp oq od : Nat} {cP cI cS cF cL cE : ClassId} {H : Heap} {locs : List Loc} {ls : Array Slot} (hl : lv_has ls 9 [(5, .int 0), (4, .ref od), (3, .ref oq), (2, .ref om), (1, .ref ox), (0, .ref b)]) (hK : va_K (dC, dI) vwCl [(cP, .object "Levelsmith$Player"), (cI, .int), (cS, .int), (cF, .int), (cL, .long), (cE, .double)] s) (hP : va_P (dC, dI) vwCl (WLL ox pl ru sh sp sl gr re pr ga rp bo fa gpl gin bbe bdi om mt qu lv mi ml mss rn sw mf msp oq od cP cI cS cF cL cE de) H) (hD : va_D A (WLL ox pl ru sh sp sl gr re pr ga rp bo fa gpl gin bbe bdi om mt qu lv mi ml mss rn sw mf msp oq od cP cI cS cF cL cE de)) (hS : va_S A s.heap H locs) : W p l e room_1 s m #[Value.ref b] below meth c H locs 64 1163523 (lw_Z below #[Value.ref b] s) (F0 m 620 ls []) := by
  have C1 := C0
  obtain ⟨hlt, hx, hb, hr, hml, hown, ht, hX, hbl, hlocks, hG, hA, hAs, hbA⟩ := C0
  replace hP : va_P (dC, dI) vwCl [(ox, .inr (13, [.ref pl, .ref ru, .ref sh, .ref sp, .ref sl, .ref gr, .ref re, .ref pr, .ref ga, .ref rp, .ref bo, .int 0])), (pl, .inr (1, [.int 0, .ref de, .int 0])), (ru, .inr (1, [.int 0, .ref de, .int 0])), (sh, .inr (1, [.int 0, .ref de, .int 0])), (sp, .inl (cP, 6, .inr (.inr (.inr (.inr (fun _ => none)))))), (ga, .inr (5, [.ref gpl, .ref gin, .int (-1), .int 0, .int 112, .int 0])), (bo, .inr (2, [.ref fa, .ref bbe, .ref bdi, .int 0, .int 0])), (fa, .inl (cI, 96, .inl (fun _ => 0))), (om, .inr (20, [.ref mt, .ref qu, .int 0, .int 0, .ref lv, .int (-1), .int 0, .int 0, .ref mi, .int 0, .int 0, .int 0, .int 0, .ref ml, .ref mss, .ref rn, .ref sw, .ref mf, .null, .int 0, .ref msp, .int 0, .int 0, .int 0])), (lv, .inr (1, [.int 0, .ref de, .int 0])), (rn, .inr (1, [.int 0, .ref de, .int 0])), (sw, .inr (1, [.int 0, .ref de, .int 0])), (ml, .inl (cS, 6, .inl (slotF))), (mf, .inl (cF, 96, .inl (fun _ => 0))), (oq, .inl (cL, 1, .inr (.inl (fun _ => 0)))), (od, .inl (cE, 1, .inr (.inr (.inr (.inl (fun _ => 0))))))] H := hP
  replace hD : va_D A [(ox, .inr (13, [.ref pl, .ref ru, .ref sh, .ref sp, .ref sl, .ref gr, .ref re, .ref pr, .ref ga, .ref rp, .ref bo, .int 0])), (pl, .inr (1, [.int 0, .ref de, .int 0])), (ru, .inr (1, [.int 0, .ref de, .int 0])), (sh, .inr (1, [.int 0, .ref de, .int 0])), (sp, .inl (cP, 6, .inr (.inr (.inr (.inr (fun _ => none)))))), (ga, .inr (5, [.ref gpl, .ref gin, .int (-1), .int 0, .int 112, .int 0])), (bo, .inr (2, [.ref fa, .ref bbe, .ref bdi, .int 0, .int 0])), (fa, .inl (cI, 96, .inl (fun _ => 0))), (om, .inr (20, [.ref mt, .ref qu, .int 0, .int 0, .ref lv, .int (-1), .int 0, .int 0, .ref mi, .int 0, .int 0, .int 0, .int 0, .ref ml, .ref mss, .ref rn, .ref sw, .ref mf, .null, .int 0, .ref msp, .int 0, .int 0, .int 0])), (lv, .inr (1, [.int 0, .ref de, .int 0])), (rn, .inr (1, [.int 0, .ref de, .int 0])), (sw, .inr (1, [.int 0, .ref de, .int 0])), (ml, .inl (cS, 6, .inl (slotF))), (mf, .inl (cF, 96, .inl (fun _ => 0))), (oq, .inl (cL, 1, .inr (.inl (fun _ => 0)))), (od, .inl (cE, 1, .inr (.inr (.inr (.inl (fun _ => 0))))))] := hD
  refine lv_aload_n hx hb dL_law_620 rfl (lv_at hl 4 rfl) ?_
  refine lv_aload_n hx hb dL_law_621 rfl (lv_at hl 5 rfl) ?_
  refine lv_iload hx hb dL_law_622 (lv_at hl 0 rfl) ?_
  refine lv_iconst (v := 1) hx hb dL_law_624 (by decide) ?_
  refine lv_iadd hx hb dL_law_625 ?_
  refine va_sld hx hb hX hbl hbA hS (by unfold vp_in; decide) dL_law_626 ?_
  refine lv_topi (fun y ey => ?_)
  replace ey : y = (xs 1) := ey.trans (congrArg xs (by decide))
  subst ey
  refine lv_aload_n hx hb dL_law_627 rfl (lv_at hl 5 rfl) ?_
  refine lv_iload hx hb dL_law_628 (lv_at hl 0 rfl) ?_
  refine lv_iconst (v := 2) hx hb dL_law_630 (by decide) ?_
  refine lv_iadd hx hb dL_law_631 ?_
  refine va_sld hx hb hX hbl hbA hS (by unfold vp_in; decide) dL_law_632 ?_
  refine lv_topi (fun y ey => ?_)
  replace ey : y = (xs 2) := ey.trans (congrArg xs (by decide))
  subst ey
  refine lv_aload_n hx hb dL_law_633 rfl (lv_at hl 5 rfl) ?_
  refine lv_iload hx hb dL_law_634 (lv_at hl 0 rfl) ?_
  refine lv_iconst (v := 3) hx hb dL_law_636 (by decide) ?_
  refine lv_iadd hx hb dL_law_637 ?_
  refine va_sld hx hb hX hbl hbA hS (by unfold vp_in; decide) dL_law_638 ?_
  refine lv_topi (fun y ey => ?_)
  replace ey : y = (xs 3) := ey.trans (congrArg xs (by decide))
  subst ey
  refine lv_aload_n hx hb dL_law_639 rfl (lv_at hl 2 rfl) ?_
  have hPc := hP.sub (ws' := [(ox, .inr (13, [.ref pl, .ref ru, .ref sh, .ref sp, .ref sl, .ref gr, .ref re, .ref pr, .ref ga, .ref rp, .ref bo, .int 0])), (pl, .inr (1, [.int 0, .ref de, .int 0])), (ru, .inr (1, [.int 0, .ref de, .int 0])), (sh, .inr (1, [.int 0, .ref de, .int 0])), (sp, .inl (cP, 6, .inr (.inr (.inr (.inr (fun _ => none)))))), (ga, .inr (5, [.ref gpl, .ref gin, .int (-1), .int 0, .int 112, .int 0])), (bo, .inr (2, [.ref fa, .ref bbe, .ref bdi, .int 0, .int 0])), (fa, .inl (cI, 96, .inl (fun _ => 0))), (oq, .inl (cL, 1, .inr (.inl (fun _ => 0))))]) [0, 1, 2, 3, 4, 5, 6, 7, 14] rfl
  have hDc := hD.sub (ws' := [(ox, .inr (13, [.ref pl, .ref ru, .ref sh, .ref sp, .ref sl, .ref gr, .ref re, .ref pr, .ref ga, .ref rp, .ref bo, .int 0])), (pl, .inr (1, [.int 0, .ref de, .int 0])), (ru, .inr (1, [.int 0, .ref de, .int 0])), (sh, .inr (1, [.int 0, .ref de, .int 0])), (sp, .inl (cP, 6, .inr (.inr (.inr (.inr (fun _ => none)))))), (ga, .inr (5, [.ref gpl, .ref gin, .int (-1), .int 0, .int 112, .int 0])), (bo, .inr (2, [.ref fa, .ref bbe, .ref bdi, .int 0, .int 0])), (fa, .inl (cI, 96, .inl (fun _ => 0))), (oq, .inl (cL, 1, .inr (.inl (fun _ => 0))))]) [0, 1, 2, 3, 4, 5, 6, 7, 14] (by decide) rfl
  have hKc := hK.sub (tys' := [(cP, .object "Levelsmith$Player"), (cI, .int), (cL, .long)]) [0, 1, 4] rfl
  have hFc := va_free (wc := [(ox, .inr (13, [.ref pl, .ref ru, .ref sh, .ref sp, .ref sl, .ref gr, .ref re, .ref pr, .ref ga, .ref rp, .ref bo, .int 0])), (pl, .inr (1, [.int 0, .ref de, .int 0])), (ru, .inr (1, [.int 0, .ref de, .int 0])), (sh, .inr (1, [.int 0, .ref de, .int 0])), (sp, .inl (cP, 6, .inr (.inr (.inr (.inr (fun _ => none)))))), (ga, .inr (5, [.ref gpl, .ref gin, .int (-1), .int 0, .int 112, .int 0])), (bo, .inr (2, [.ref fa, .ref bbe, .ref bdi, .int 0, .int 0])), (fa, .inl (cI, 96, .inl (fun _ => 0))), (oq, .inl (cL, 1, .inr (.inl (fun _ => 0))))]) hD hS hA [0, 1, 2, 3, 4, 5, 6, 7, 14] rfl
  refine vx_calli (vx_runSX (As := [.ref ox, .int (xs 1), .int (xs 2), .int (xs 3), .ref oq]) (rest := []) ⟨hx, hb, hml, hown, ht⟩ (c_L_start l hlt dC dI de (ox) (pl) (ru) (sh) (sp) (sl) (gr) (re) (pr) (ga) (rp) (bo) (fa) (gpl) (gin) (bbe) (bdi) (cP) (cI) (oq) (cL) ((xs 1)) ((xs 2)) ((xs 3)) H.size) (vx_cwSW 5 ht (gWX (wr_21 _ (List.mem_of_getElem? (i := 19) rfl)) (wr_21 _ (List.mem_of_getElem? (i := 20) rfl)) (wr_9 _ (List.mem_of_getElem? (i := 13) rfl)) (wr_21 _ (List.mem_of_getElem? (i := 21) rfl))) rfl rfl rfl (by decide +kernel) ⟨Nat.le_of_ble_eq_true rfl, Nat.le_of_ble_eq_true rfl⟩) ⟨PW_blind, PW_call hPc hDc hKc hS hG hFc⟩ rfl rfl hl.1 rfl (lv_room (Nat.le_of_ble_eq_true rfl)) dL_law_640 ⟨Nat.le_of_ble_eq_true rfl, Nat.le_of_ble_eq_true rfl⟩) hS (fun q _ h => hFc q h) hFc (fun q _ h => hFc q h) (fun E ce q9 u t H1 locs1 ht9 hvm9 _ hR9 hz9 hk9 hS9 hc9 hv9 hcl9 => ?_) (fun r_640 u t H1 locs ht9 hvm hw hB hz1 hk1 hS => ?_)
  · exact False.elim hR9
  · obtain ⟨hP1, hK1, hD1⟩ := hB
    rw [ht9] at hP1
    have hK1 := va_K.moved hvm.symm hK1
    obtain ⟨hP, hD⟩ := va_join (wr := [(om, .inr (20, [.ref mt, .ref qu, .int 0, .int 0, .ref lv, .int (-1), .int 0, .int 0, .ref mi, .int 0, .int 0, .int 0, .int 0, .ref ml, .ref mss, .ref rn, .ref sw, .ref mf, .null, .int 0, .ref msp, .int 0, .int 0, .int 0])), (lv, .inr (1, [.int 0, .ref de, .int 0])), (rn, .inr (1, [.int 0, .ref de, .int 0])), (sw, .inr (1, [.int 0, .ref de, .int 0])), (ml, .inl (cS, 6, .inl (slotF))), (mf, .inl (cF, 96, .inl (fun _ => 0))), (od, .inl (cE, 1, .inr (.inr (.inr (.inl (fun _ => 0))))))]) (w1 := []) hP hD [0, 1, 2, 3, 4, 5, 6, 7, 14] [8, 9, 10, 11, 12, 13, 15] rfl rfl (by decide) (by decide) hk1 hFc hP1 hD1
    have hK := (hK.sub (tys' := [(cS, .int), (cF, .int), (cE, .double)]) [2, 3, 5] rfl).app hK1
    generalize H1 = H at hP hS ⊢
    replace hP : va_P (dC, dI) vwCl [(om, .inr (20, [.ref mt, .ref qu, .int 0, .int 0, .ref lv, .int (-1), .int 0, .int 0, .ref mi, .int 0, .int 0, .int 0, .int 0, .ref ml, .ref mss, .ref rn, .ref sw, .ref mf, .null, .int 0, .ref msp, .int 0, .int 0, .int 0])), (lv, .inr (1, [.int 0, .ref de, .int 0])), (rn, .inr (1, [.int 0, .ref de, .int 0])), (sw, .inr (1, [.int 0, .ref de, .int 0])), (ml, .inl (cS, 6, .inl (slotF))), (mf, .inl (cF, 96, .inl (fun _ => 0))), (od, .inl (cE, 1, .inr (.inr (.inr (.inl (fun _ => 0))))))] H := hP
    replace hD : va_D A [(om, .inr (20, [.ref mt, .ref qu, .int 0, .int 0, .ref lv, .int (-1), .int 0, .int 0, .ref mi, .int 0, .int 0, .int 0, .int 0, .ref ml, .ref mss, .ref rn, .ref sw, .ref mf, .null, .int 0, .ref msp, .int 0, .int 0, .int 0])), (lv, .inr (1, [.int 0, .ref de, .int 0])), (rn, .inr (1, [.int 0, .ref de, .int 0])), (sw, .inr (1, [.int 0, .ref de, .int 0])), (ml, .inl (cS, 6, .inl (slotF))), (mf, .inl (cF, 96, .inl (fun _ => 0))), (od, .inl (cE, 1, .inr (.inr (.inr (.inl (fun _ => 0))))))] := hD
    have hK : va_K (dC, dI) vwCl [(cS, .int), (cF, .int), (cE, .double)] s := hK
    refine W.widen (k := 65) (n := 1163529) (Nat.le_of_ble_eq_true rfl) (Nat.le_of_ble_eq_true rfl) ?_
    have e_640 : r_640 = 1 := hw
    subst e_640
    refine lv_istore (lv' := [(6, .int 1), (5, .int 0), (4, .ref od), (3, .ref oq), (2, .ref om), (1, .ref ox), (0, .ref b)]) hx hb dL_law_643 hl (by decide) rfl (fun ls hl => ?_)
    refine lv_aload_n hx hb dL_law_645 rfl (lv_at hl 4 rfl) ?_
    refine lv_aload_n hx hb dL_law_646 rfl (lv_at hl 6 rfl) ?_
    refine lv_iload hx hb dL_law_647 (lv_at hl 1 rfl) ?_
    refine lv_iconst (v := 1) hx hb dL_law_649 (by decide) ?_
    refine lv_iadd hx hb dL_law_650 ?_
    refine va_sld hx hb hX hbl hbA hS (by unfold vp_in; decide) dL_law_651 ?_
    refine lv_topi (fun y ey => ?_)
    replace ey : y = (xs 1) := ey.trans (congrArg xs (by decide))
    subst ey
    refine lv_aload_n hx hb dL_law_652 rfl (lv_at hl 6 rfl) ?_
    refine lv_iload hx hb dL_law_653 (lv_at hl 1 rfl) ?_
    refine lv_iconst (v := 2) hx hb dL_law_655 (by decide) ?_
    refine lv_iadd hx hb dL_law_656 ?_
    refine va_sld hx hb hX hbl hbA hS (by unfold vp_in; decide) dL_law_657 ?_
    refine lv_topi (fun y ey => ?_)
    replace ey : y = (xs 2) := ey.trans (congrArg xs (by decide))
    subst ey
    refine lv_aload_n hx hb dL_law_658 rfl (lv_at hl 6 rfl) ?_
    refine lv_iload hx hb dL_law_659 (lv_at hl 1 rfl) ?_
    refine lv_iconst (v := 3) hx hb dL_law_661 (by decide) ?_
    refine lv_iadd hx hb dL_law_662 ?_
    refine va_sld hx hb hX hbl hbA hS (by unfold vp_in; decide) dL_law_663 ?_
    refine lv_topi (fun y ey => ?_)
    replace ey : y = (xs 3) := ey.trans (congrArg xs (by decide))
    subst ey
    have hPc := hP.sub (ws' := [(om, .inr (20, [.ref mt, .ref qu, .int 0, .int 0, .ref lv, .int (-1), .int 0, .int 0, .ref mi, .int 0, .int 0, .int 0, .int 0, .ref ml, .ref mss, .ref rn, .ref sw, .ref mf, .null, .int 0, .ref msp, .int 0, .int 0, .int 0])), (lv, .inr (1, [.int 0, .ref de, .int 0])), (rn, .inr (1, [.int 0, .ref de, .int 0])), (sw, .inr (1, [.int 0, .ref de, .int 0])), (ml, .inl (cS, 6, .inl (slotF))), (mf, .inl (cF, 96, .inl (fun _ => 0)))]) [0, 1, 2, 3, 4, 5] rfl
    have hDc := hD.sub (ws' := [(om, .inr (20, [.ref mt, .ref qu, .int 0, .int 0, .ref lv, .int (-1), .int 0, .int 0, .ref mi, .int 0, .int 0, .int 0, .int 0, .ref ml, .ref mss, .ref rn, .ref sw, .ref mf, .null, .int 0, .ref msp, .int 0, .int 0, .int 0])), (lv, .inr (1, [.int 0, .ref de, .int 0])), (rn, .inr (1, [.int 0, .ref de, .int 0])), (sw, .inr (1, [.int 0, .ref de, .int 0])), (ml, .inl (cS, 6, .inl (slotF))), (mf, .inl (cF, 96, .inl (fun _ => 0)))]) [0, 1, 2, 3, 4, 5] (by decide) rfl
    have hKc := hK.sub (tys' := [(cS, .int), (cF, .int)]) [0, 1] rfl
    have hFc := va_free (wc := [(om, .inr (20, [.ref mt, .ref qu, .int 0, .int 0, .ref lv, .int (-1), .int 0, .int 0, .ref mi, .int 0, .int 0, .int 0, .int 0, .ref ml, .ref mss, .ref rn, .ref sw, .ref mf, .null, .int 0, .ref msp, .int 0, .int 0, .int 0])), (lv, .inr (1, [.int 0, .ref de, .int 0])), (rn, .inr (1, [.int 0, .ref de, .int 0])), (sw, .inr (1, [.int 0, .ref de, .int 0])), (ml, .inl (cS, 6, .inl (slotF))), (mf, .inl (cF, 96, .inl (fun _ => 0)))]) hD hS hA [0, 1, 2, 3, 4, 5] rfl
    refine va_calli (va_runV (As := [.int (xs 1), .int (xs 2), .int (xs 3)]) (rest := []) ⟨hx, hb, hml, hown, ht⟩ (c_X18_start l dC dI de (om) (mt) (qu) (lv) (mi) (ml) (mss) (rn) (sw) (mf) (msp) (cS) (cF) (0) ((xs 1)) ((xs 2)) ((xs 3)) H.size) (cwV 3 ht (gWV (wr_22 _ (List.mem_of_getElem? (i := 7) rfl)) (wr_22 _ (List.mem_of_getElem? (i := 8) rfl)) (wr_22 _ (List.mem_of_getElem? (i := 9) rfl)) (wr_1 _ (List.mem_of_getElem? (i := 5) rfl)) (wr_22 _ (List.mem_of_getElem? (i := 10) rfl))) rfl rfl rfl (by decide +kernel) ⟨Nat.le_of_ble_eq_true rfl, Nat.le_of_ble_eq_true rfl⟩) ⟨PW_blind, va_recv hKc hPc (ci := 20) (q0 := 0) rfl rfl, PW_call hPc hDc hKc hS hG hFc⟩ rfl rfl hl.1 rfl (lv_room (Nat.le_of_ble_eq_true rfl)) dL_law_664 ⟨Nat.le_of_ble_eq_true rfl, Nat.le_of_ble_eq_true rfl⟩) hS (fun q _ h => hFc q h) hFc (fun r_664 u t H1 locs ht9 hvm hw hB hz1 hk1 hS => ?_)
    obtain ⟨hP1, hK1, hD1⟩ := hB
    rw [ht9] at hP1
    have hK1 := va_K.moved hvm.symm hK1
    obtain ⟨hP, hD⟩ := va_join (wr := [(od, .inl (cE, 1, .inr (.inr (.inr (.inl (fun _ => 0))))))]) (w1 := [(om, .inr (20, [.ref mt, .ref qu, .int 0, .int 1, .ref lv, .int (-1), .int 0, .int 0, .ref mi, .int 0, .int 0, .int 0, .int 0, .ref ml, .ref mss, .ref rn, .ref sw, .ref mf, .null, .int 0, .ref msp, .int 0, .int 0, .int 0])), (lv, .inr (1, [.int 0, .ref de, .int 0])), (rn, .inr (1, [.int 0, .ref de, .int 0])), (sw, .inr (1, [.int 0, .ref de, .int 0])), (ml, .inl (cS, 6, .inl (slotF))), (mf, .inl (cF, 96, .inl (fun _ => 0)))]) hP hD [0, 1, 2, 3, 4, 5] [6] rfl rfl (by decide) (by decide) hk1 hFc hP1 hD1
    have hK := (hK.sub (tys' := [(cE, .double)]) [2] rfl).app hK1
    generalize H1 = H at hP hS ⊢
    replace hP : va_P (dC, dI) vwCl [(od, .inl (cE, 1, .inr (.inr (.inr (.inl (fun _ => 0)))))), (om, .inr (20, [.ref mt, .ref qu, .int 0, .int 1, .ref lv, .int (-1), .int 0, .int 0, .ref mi, .int 0, .int 0, .int 0, .int 0, .ref ml, .ref mss, .ref rn, .ref sw, .ref mf, .null, .int 0, .ref msp, .int 0, .int 0, .int 0])), (lv, .inr (1, [.int 0, .ref de, .int 0])), (rn, .inr (1, [.int 0, .ref de, .int 0])), (sw, .inr (1, [.int 0, .ref de, .int 0])), (ml, .inl (cS, 6, .inl (slotF))), (mf, .inl (cF, 96, .inl (fun _ => 0)))] H := hP
    replace hD : va_D A [(od, .inl (cE, 1, .inr (.inr (.inr (.inl (fun _ => 0)))))), (om, .inr (20, [.ref mt, .ref qu, .int 0, .int 1, .ref lv, .int (-1), .int 0, .int 0, .ref mi, .int 0, .int 0, .int 0, .int 0, .ref ml, .ref mss, .ref rn, .ref sw, .ref mf, .null, .int 0, .ref msp, .int 0, .int 0, .int 0])), (lv, .inr (1, [.int 0, .ref de, .int 0])), (rn, .inr (1, [.int 0, .ref de, .int 0])), (sw, .inr (1, [.int 0, .ref de, .int 0])), (ml, .inl (cS, 6, .inl (slotF))), (mf, .inl (cF, 96, .inl (fun _ => 0)))] := hD
    have hK : va_K (dC, dI) vwCl [(cE, .double), (cS, .int), (cF, .int)] s := hK
    have hw_664 := hw
    refine lv_istore (lv' := [(7, .int r_664), (6, .int 1), (5, .int 0), (4, .ref od), (3, .ref oq), (2, .ref om), (1, .ref ox), (0, .ref b)]) hx hb dL_law_667 hl (by decide) rfl (fun ls hl => ?_)
    refine lv_aload_n hx hb dL_law_669 rfl (lv_at hl 5 rfl) ?_
    have hPc := hP.sub (ws' := [(om, .inr (20, [.ref mt, .ref qu, .int 0, .int 1, .ref lv, .int (-1), .int 0, .int 0, .ref mi, .int 0, .int 0, .int 0, .int 0, .ref ml, .ref mss, .ref rn, .ref sw, .ref mf, .null, .int 0, .ref msp, .int 0, .int 0, .int 0]))]) [1] rfl
    have hDc := hD.sub (ws' := [(om, .inr (20, [.ref mt, .ref qu, .int 0, .int 1, .ref lv, .int (-1), .int 0, .int 0, .ref mi, .int 0, .int 0, .int 0, .int 0, .ref ml, .ref mss, .ref rn, .ref sw, .ref mf, .null, .int 0, .ref msp, .int 0, .int 0, .int 0]))]) [1] (by decide) rfl
    have hKc := hK.sub (tys' := []) [] rfl
    have hFc := va_free (wc := [(om, .inr (20, [.ref mt, .ref qu, .int 0, .int 1, .ref lv, .int (-1), .int 0, .int 0, .ref mi, .int 0, .int 0, .int 0, .int 0, .ref ml, .ref mss, .ref rn, .ref sw, .ref mf, .null, .int 0, .ref msp, .int 0, .int 0, .int 0]))]) hD hS hA [1] rfl
    refine va_calli (va_runV (As := []) (rest := []) ⟨hx, hb, hml, hown, ht⟩ (c_thrown1 l dC dI de (om) (mt) (qu) (lv) (mi) (ml) (mss) (rn) (sw) (mf) (msp) (1) H.size) (cwV 0 ht (gWV (wr_18 _ (List.mem_of_getElem? (i := 5) rfl)) (wr_18 _ (List.mem_of_getElem? (i := 6) rfl)) (wr_18 _ (List.mem_of_getElem? (i := 7) rfl)) (wr_1 _ (List.mem_of_getElem? (i := 5) rfl)) (wr_18 _ (List.mem_of_getElem? (i := 8) rfl))) rfl rfl rfl (by decide +kernel) ⟨Nat.le_of_ble_eq_true rfl, Nat.le_of_ble_eq_true rfl⟩) ⟨PW_blind, va_recv hKc hPc (ci := 20) (q0 := 0) rfl rfl, PW_call hPc hDc hKc hS hG hFc⟩ rfl rfl hl.1 rfl (lv_room (Nat.le_of_ble_eq_true rfl)) dL_law_670 ⟨Nat.le_of_ble_eq_true rfl, Nat.le_of_ble_eq_true rfl⟩) hS (fun q _ h => hFc q h) hFc (fun r_670 u t H1 locs ht9 hvm hw hB hz1 hk1 hS => ?_)
    obtain ⟨hP1, hK1, hD1⟩ := hB
    rw [ht9] at hP1
    have hK1 := va_K.moved hvm.symm hK1
    obtain ⟨hP, hD⟩ := va_join (wr := [(od, .inl (cE, 1, .inr (.inr (.inr (.inl (fun _ => 0)))))), (lv, .inr (1, [.int 0, .ref de, .int 0])), (rn, .inr (1, [.int 0, .ref de, .int 0])), (sw, .inr (1, [.int 0, .ref de, .int 0])), (ml, .inl (cS, 6, .inl (slotF))), (mf, .inl (cF, 96, .inl (fun _ => 0)))]) (w1 := [(om, .inr (20, [.ref mt, .ref qu, .int 0, .int 1, .ref lv, .int (-1), .int 0, .int 0, .ref mi, .int 0, .int 0, .int 0, .int 0, .ref ml, .ref mss, .ref rn, .ref sw, .ref mf, .null, .int 0, .ref msp, .int 0, .int 0, .int 0]))]) hP hD [1] [0, 2, 3, 4, 5, 6] rfl rfl (by decide) (by decide) hk1 hFc hP1 hD1
    have hK := (hK.sub (tys' := [(cE, .double), (cS, .int), (cF, .int)]) [0, 1, 2] rfl).app hK1
    generalize H1 = H at hP hS ⊢
    replace hP : va_P (dC, dI) vwCl [(od, .inl (cE, 1, .inr (.inr (.inr (.inl (fun _ => 0)))))), (lv, .inr (1, [.int 0, .ref de, .int 0])), (rn, .inr (1, [.int 0, .ref de, .int 0])), (sw, .inr (1, [.int 0, .ref de, .int 0])), (ml, .inl (cS, 6, .inl (slotF))), (mf, .inl (cF, 96, .inl (fun _ => 0))), (om, .inr (20, [.ref mt, .ref qu, .int 0, .int 1, .ref lv, .int (-1), .int 0, .int 0, .ref mi, .int 0, .int 0, .int 0, .int 0, .ref ml, .ref mss, .ref rn, .ref sw, .ref mf, .null, .int 0, .ref msp, .int 0, .int 0, .int 0]))] H := hP
    replace hD : va_D A [(od, .inl (cE, 1, .inr (.inr (.inr (.inl (fun _ => 0)))))), (lv, .inr (1, [.int 0, .ref de, .int 0])), (rn, .inr (1, [.int 0, .ref de, .int 0])), (sw, .inr (1, [.int 0, .ref de, .int 0])), (ml, .inl (cS, 6, .inl (slotF))), (mf, .inl (cF, 96, .inl (fun _ => 0))), (om, .inr (20, [.ref mt, .ref qu, .int 0, .int 1, .ref lv, .int (-1), .int 0, .int 0, .ref mi, .int 0, .int 0, .int 0, .int 0, .ref ml, .ref mss, .ref rn, .ref sw, .ref mf, .null, .int 0, .ref msp, .int 0, .int 0, .int 0]))] := hD
    have hK : va_K (dC, dI) vwCl [(cE, .double), (cS, .int), (cF, .int)] s := hK
    have e_670 : r_670 = 1 := hw
    subst e_670
    refine lv_iload hx hb dL_law_673 (lv_at hl 1 rfl) ?_
    refine lv_icmp_eq (tgt := 680) hx hb dL_law_675 (by decide) (fun c_675 => ?_) (fun c_675 => absurd c_675 (by decide))
    refine lv_iload hx hb dL_law_680 (lv_at hl 1 rfl) ?_
    refine lv_if_ne (tgt := 697) hx hb dL_law_682 (by decide) (fun c_682 => ?_) (fun c_682 => absurd c_682 (by decide))
    refine lv_goto (tgt := 3236) hx hb dL_law_697 (by decide) ?_
    exact law_end C1 (lv_sub hl [2, 7] rfl) hS (Nat.le_of_ble_eq_true rfl) (Nat.le_of_ble_eq_true rfl)
set_option maxHeartbeats 4000000 in
set_option maxRecDepth 100000 in
theorem lc_5 {p : Program} {l : Launch} {e : Env} {s : State} {m : MethodId} {below : List Frame} {meth : Method} {c : Code} {b : Nat} {xs : Nat → Int32} {de : Nat} {A : Nat → Prop} (C0 : LX p l s m meth c b xs de A) {dC : Nat → ClassId} {dI : Nat → Nat → Nat} {ox pl ru sh sp sl gr re pr ga rp bo fa gpl gin bbe bdi om mt qu lv mi ml mss rn sw mf msp oq od : Nat} {cP cI cS cF cL cE : ClassId} {H : Heap} {locs : List Loc} {ls : Array Slot} (hl : lv_has ls 9 [(5, .int 0), (4, .ref od), (3, .ref oq), (2, .ref om), (1, .ref ox), (0, .ref b)]) (hK : va_K (dC, dI) vwCl [(cP, .object "Levelsmith$Player"), (cI, .int), (cS, .int), (cF, .int), (cL, .long), (cE, .double)] s) (hP : va_P (dC, dI) vwCl (WLL ox pl ru sh sp sl gr re pr ga rp bo fa gpl gin bbe bdi om mt qu lv mi ml mss rn sw mf msp oq od cP cI cS cF cL cE de) H) (hD : va_D A (WLL ox pl ru sh sp sl gr re pr ga rp bo fa gpl gin bbe bdi om mt qu lv mi ml mss rn sw mf msp oq od cP cI cS cF cL cE de)) (hS : va_S A s.heap H locs) : W p l e room_1 s m #[Value.ref b] below meth c H locs 64 1163523 (lw_Z below #[Value.ref b] s) (F0 m 700 ls []) := by
  have C1 := C0
  obtain ⟨hlt, hx, hb, hr, hml, hown, ht, hX, hbl, hlocks, hG, hA, hAs, hbA⟩ := C0
  replace hP : va_P (dC, dI) vwCl [(ox, .inr (13, [.ref pl, .ref ru, .ref sh, .ref sp, .ref sl, .ref gr, .ref re, .ref pr, .ref ga, .ref rp, .ref bo, .int 0])), (pl, .inr (1, [.int 0, .ref de, .int 0])), (ru, .inr (1, [.int 0, .ref de, .int 0])), (sh, .inr (1, [.int 0, .ref de, .int 0])), (sp, .inl (cP, 6, .inr (.inr (.inr (.inr (fun _ => none)))))), (ga, .inr (5, [.ref gpl, .ref gin, .int (-1), .int 0, .int 112, .int 0])), (bo, .inr (2, [.ref fa, .ref bbe, .ref bdi, .int 0, .int 0])), (fa, .inl (cI, 96, .inl (fun _ => 0))), (om, .inr (20, [.ref mt, .ref qu, .int 0, .int 0, .ref lv, .int (-1), .int 0, .int 0, .ref mi, .int 0, .int 0, .int 0, .int 0, .ref ml, .ref mss, .ref rn, .ref sw, .ref mf, .null, .int 0, .ref msp, .int 0, .int 0, .int 0])), (lv, .inr (1, [.int 0, .ref de, .int 0])), (rn, .inr (1, [.int 0, .ref de, .int 0])), (sw, .inr (1, [.int 0, .ref de, .int 0])), (ml, .inl (cS, 6, .inl (slotF))), (mf, .inl (cF, 96, .inl (fun _ => 0))), (oq, .inl (cL, 1, .inr (.inl (fun _ => 0)))), (od, .inl (cE, 1, .inr (.inr (.inr (.inl (fun _ => 0))))))] H := hP
  replace hD : va_D A [(ox, .inr (13, [.ref pl, .ref ru, .ref sh, .ref sp, .ref sl, .ref gr, .ref re, .ref pr, .ref ga, .ref rp, .ref bo, .int 0])), (pl, .inr (1, [.int 0, .ref de, .int 0])), (ru, .inr (1, [.int 0, .ref de, .int 0])), (sh, .inr (1, [.int 0, .ref de, .int 0])), (sp, .inl (cP, 6, .inr (.inr (.inr (.inr (fun _ => none)))))), (ga, .inr (5, [.ref gpl, .ref gin, .int (-1), .int 0, .int 112, .int 0])), (bo, .inr (2, [.ref fa, .ref bbe, .ref bdi, .int 0, .int 0])), (fa, .inl (cI, 96, .inl (fun _ => 0))), (om, .inr (20, [.ref mt, .ref qu, .int 0, .int 0, .ref lv, .int (-1), .int 0, .int 0, .ref mi, .int 0, .int 0, .int 0, .int 0, .ref ml, .ref mss, .ref rn, .ref sw, .ref mf, .null, .int 0, .ref msp, .int 0, .int 0, .int 0])), (lv, .inr (1, [.int 0, .ref de, .int 0])), (rn, .inr (1, [.int 0, .ref de, .int 0])), (sw, .inr (1, [.int 0, .ref de, .int 0])), (ml, .inl (cS, 6, .inl (slotF))), (mf, .inl (cF, 96, .inl (fun _ => 0))), (oq, .inl (cL, 1, .inr (.inl (fun _ => 0)))), (od, .inl (cE, 1, .inr (.inr (.inr (.inl (fun _ => 0))))))] := hD
  refine lv_aload_n hx hb dL_law_700 rfl (lv_at hl 4 rfl) ?_
  refine lv_aload_n hx hb dL_law_701 rfl (lv_at hl 5 rfl) ?_
  refine lv_iload hx hb dL_law_702 (lv_at hl 0 rfl) ?_
  refine lv_iconst (v := 1) hx hb dL_law_704 (by decide) ?_
  refine lv_iadd hx hb dL_law_705 ?_
  refine va_sld hx hb hX hbl hbA hS (by unfold vp_in; decide) dL_law_706 ?_
  refine lv_topi (fun y ey => ?_)
  replace ey : y = (xs 1) := ey.trans (congrArg xs (by decide))
  subst ey
  refine lv_aload_n hx hb dL_law_707 rfl (lv_at hl 5 rfl) ?_
  refine lv_iload hx hb dL_law_708 (lv_at hl 0 rfl) ?_
  refine lv_iconst (v := 2) hx hb dL_law_710 (by decide) ?_
  refine lv_iadd hx hb dL_law_711 ?_
  refine va_sld hx hb hX hbl hbA hS (by unfold vp_in; decide) dL_law_712 ?_
  refine lv_topi (fun y ey => ?_)
  replace ey : y = (xs 2) := ey.trans (congrArg xs (by decide))
  subst ey
  refine lv_aload_n hx hb dL_law_713 rfl (lv_at hl 5 rfl) ?_
  refine lv_iload hx hb dL_law_714 (lv_at hl 0 rfl) ?_
  refine lv_iconst (v := 3) hx hb dL_law_716 (by decide) ?_
  refine lv_iadd hx hb dL_law_717 ?_
  refine va_sld hx hb hX hbl hbA hS (by unfold vp_in; decide) dL_law_718 ?_
  refine lv_topi (fun y ey => ?_)
  replace ey : y = (xs 3) := ey.trans (congrArg xs (by decide))
  subst ey
  refine lv_aload_n hx hb dL_law_719 rfl (lv_at hl 5 rfl) ?_
  refine lv_iload hx hb dL_law_720 (lv_at hl 0 rfl) ?_
  refine lv_iconst (v := 4) hx hb dL_law_722 (by decide) ?_
  refine lv_iadd hx hb dL_law_723 ?_
  refine va_sld hx hb hX hbl hbA hS (by unfold vp_in; decide) dL_law_724 ?_
  refine lv_topi (fun y ey => ?_)
  replace ey : y = (xs 4) := ey.trans (congrArg xs (by decide))
  subst ey
  refine lv_aload_n hx hb dL_law_725 rfl (lv_at hl 2 rfl) ?_
  have hPc := hP.sub (ws' := [(ox, .inr (13, [.ref pl, .ref ru, .ref sh, .ref sp, .ref sl, .ref gr, .ref re, .ref pr, .ref ga, .ref rp, .ref bo, .int 0])), (pl, .inr (1, [.int 0, .ref de, .int 0])), (ru, .inr (1, [.int 0, .ref de, .int 0])), (sh, .inr (1, [.int 0, .ref de, .int 0])), (sp, .inl (cP, 6, .inr (.inr (.inr (.inr (fun _ => none)))))), (ga, .inr (5, [.ref gpl, .ref gin, .int (-1), .int 0, .int 112, .int 0])), (bo, .inr (2, [.ref fa, .ref bbe, .ref bdi, .int 0, .int 0])), (fa, .inl (cI, 96, .inl (fun _ => 0))), (oq, .inl (cL, 1, .inr (.inl (fun _ => 0))))]) [0, 1, 2, 3, 4, 5, 6, 7, 14] rfl
  have hDc := hD.sub (ws' := [(ox, .inr (13, [.ref pl, .ref ru, .ref sh, .ref sp, .ref sl, .ref gr, .ref re, .ref pr, .ref ga, .ref rp, .ref bo, .int 0])), (pl, .inr (1, [.int 0, .ref de, .int 0])), (ru, .inr (1, [.int 0, .ref de, .int 0])), (sh, .inr (1, [.int 0, .ref de, .int 0])), (sp, .inl (cP, 6, .inr (.inr (.inr (.inr (fun _ => none)))))), (ga, .inr (5, [.ref gpl, .ref gin, .int (-1), .int 0, .int 112, .int 0])), (bo, .inr (2, [.ref fa, .ref bbe, .ref bdi, .int 0, .int 0])), (fa, .inl (cI, 96, .inl (fun _ => 0))), (oq, .inl (cL, 1, .inr (.inl (fun _ => 0))))]) [0, 1, 2, 3, 4, 5, 6, 7, 14] (by decide) rfl
  have hKc := hK.sub (tys' := [(cP, .object "Levelsmith$Player"), (cI, .int), (cL, .long)]) [0, 1, 4] rfl
  have hFc := va_free (wc := [(ox, .inr (13, [.ref pl, .ref ru, .ref sh, .ref sp, .ref sl, .ref gr, .ref re, .ref pr, .ref ga, .ref rp, .ref bo, .int 0])), (pl, .inr (1, [.int 0, .ref de, .int 0])), (ru, .inr (1, [.int 0, .ref de, .int 0])), (sh, .inr (1, [.int 0, .ref de, .int 0])), (sp, .inl (cP, 6, .inr (.inr (.inr (.inr (fun _ => none)))))), (ga, .inr (5, [.ref gpl, .ref gin, .int (-1), .int 0, .int 112, .int 0])), (bo, .inr (2, [.ref fa, .ref bbe, .ref bdi, .int 0, .int 0])), (fa, .inl (cI, 96, .inl (fun _ => 0))), (oq, .inl (cL, 1, .inr (.inl (fun _ => 0))))]) hD hS hA [0, 1, 2, 3, 4, 5, 6, 7, 14] rfl
  refine vx_calli (vx_runSX (As := [.ref ox, .int (xs 1), .int (xs 2), .int (xs 3), .int (xs 4), .ref oq]) (rest := []) ⟨hx, hb, hml, hown, ht⟩ (c_L_guard l hlt dC dI de (ox) (pl) (ru) (sh) (sp) (sl) (gr) (re) (pr) (ga) (rp) (bo) (fa) (gpl) (gin) (bbe) (bdi) (cP) (cI) (oq) (cL) ((xs 1)) ((xs 2)) ((xs 3)) ((xs 4)) H.size) (vx_cwSW 6 ht (gWX (wr_22 _ (List.mem_of_getElem? (i := 11) rfl)) (wr_22 _ (List.mem_of_getElem? (i := 12) rfl)) (wr_9 _ (List.mem_of_getElem? (i := 13) rfl)) (wr_22 _ (List.mem_of_getElem? (i := 13) rfl))) rfl rfl rfl (by decide +kernel) ⟨Nat.le_of_ble_eq_true rfl, Nat.le_of_ble_eq_true rfl⟩) ⟨PW_blind, PW_call hPc hDc hKc hS hG hFc⟩ rfl rfl hl.1 rfl (lv_room (Nat.le_of_ble_eq_true rfl)) dL_law_726 ⟨Nat.le_of_ble_eq_true rfl, Nat.le_of_ble_eq_true rfl⟩) hS (fun q _ h => hFc q h) hFc (fun q _ h => hFc q h) (fun E ce q9 u t H1 locs1 ht9 hvm9 _ hR9 hz9 hk9 hS9 hc9 hv9 hcl9 => ?_) (fun r_726 u t H1 locs ht9 hvm hw hB hz1 hk1 hS => ?_)
  · exact False.elim hR9
  · obtain ⟨hP1, hK1, hD1⟩ := hB
    rw [ht9] at hP1
    have hK1 := va_K.moved hvm.symm hK1
    obtain ⟨hP, hD⟩ := va_join (wr := [(om, .inr (20, [.ref mt, .ref qu, .int 0, .int 0, .ref lv, .int (-1), .int 0, .int 0, .ref mi, .int 0, .int 0, .int 0, .int 0, .ref ml, .ref mss, .ref rn, .ref sw, .ref mf, .null, .int 0, .ref msp, .int 0, .int 0, .int 0])), (lv, .inr (1, [.int 0, .ref de, .int 0])), (rn, .inr (1, [.int 0, .ref de, .int 0])), (sw, .inr (1, [.int 0, .ref de, .int 0])), (ml, .inl (cS, 6, .inl (slotF))), (mf, .inl (cF, 96, .inl (fun _ => 0))), (od, .inl (cE, 1, .inr (.inr (.inr (.inl (fun _ => 0))))))]) (w1 := []) hP hD [0, 1, 2, 3, 4, 5, 6, 7, 14] [8, 9, 10, 11, 12, 13, 15] rfl rfl (by decide) (by decide) hk1 hFc hP1 hD1
    have hK := (hK.sub (tys' := [(cS, .int), (cF, .int), (cE, .double)]) [2, 3, 5] rfl).app hK1
    generalize H1 = H at hP hS ⊢
    replace hP : va_P (dC, dI) vwCl [(om, .inr (20, [.ref mt, .ref qu, .int 0, .int 0, .ref lv, .int (-1), .int 0, .int 0, .ref mi, .int 0, .int 0, .int 0, .int 0, .ref ml, .ref mss, .ref rn, .ref sw, .ref mf, .null, .int 0, .ref msp, .int 0, .int 0, .int 0])), (lv, .inr (1, [.int 0, .ref de, .int 0])), (rn, .inr (1, [.int 0, .ref de, .int 0])), (sw, .inr (1, [.int 0, .ref de, .int 0])), (ml, .inl (cS, 6, .inl (slotF))), (mf, .inl (cF, 96, .inl (fun _ => 0))), (od, .inl (cE, 1, .inr (.inr (.inr (.inl (fun _ => 0))))))] H := hP
    replace hD : va_D A [(om, .inr (20, [.ref mt, .ref qu, .int 0, .int 0, .ref lv, .int (-1), .int 0, .int 0, .ref mi, .int 0, .int 0, .int 0, .int 0, .ref ml, .ref mss, .ref rn, .ref sw, .ref mf, .null, .int 0, .ref msp, .int 0, .int 0, .int 0])), (lv, .inr (1, [.int 0, .ref de, .int 0])), (rn, .inr (1, [.int 0, .ref de, .int 0])), (sw, .inr (1, [.int 0, .ref de, .int 0])), (ml, .inl (cS, 6, .inl (slotF))), (mf, .inl (cF, 96, .inl (fun _ => 0))), (od, .inl (cE, 1, .inr (.inr (.inr (.inl (fun _ => 0))))))] := hD
    have hK : va_K (dC, dI) vwCl [(cS, .int), (cF, .int), (cE, .double)] s := hK
    refine W.widen (k := 65) (n := 1163529) (Nat.le_of_ble_eq_true rfl) (Nat.le_of_ble_eq_true rfl) ?_
    have e_726 : r_726 = 1 := hw
    subst e_726
    refine lv_istore (lv' := [(6, .int 1), (5, .int 0), (4, .ref od), (3, .ref oq), (2, .ref om), (1, .ref ox), (0, .ref b)]) hx hb dL_law_729 hl (by decide) rfl (fun ls hl => ?_)
    refine lv_aload_n hx hb dL_law_731 rfl (lv_at hl 4 rfl) ?_
    refine lv_aload_n hx hb dL_law_732 rfl (lv_at hl 6 rfl) ?_
    refine lv_iload hx hb dL_law_733 (lv_at hl 1 rfl) ?_
    refine lv_iconst (v := 1) hx hb dL_law_735 (by decide) ?_
    refine lv_iadd hx hb dL_law_736 ?_
    refine va_sld hx hb hX hbl hbA hS (by unfold vp_in; decide) dL_law_737 ?_
    refine lv_topi (fun y ey => ?_)
    replace ey : y = (xs 1) := ey.trans (congrArg xs (by decide))
    subst ey
    refine lv_aload_n hx hb dL_law_738 rfl (lv_at hl 6 rfl) ?_
    refine lv_iload hx hb dL_law_739 (lv_at hl 1 rfl) ?_
    refine lv_iconst (v := 2) hx hb dL_law_741 (by decide) ?_
    refine lv_iadd hx hb dL_law_742 ?_
    refine va_sld hx hb hX hbl hbA hS (by unfold vp_in; decide) dL_law_743 ?_
    refine lv_topi (fun y ey => ?_)
    replace ey : y = (xs 2) := ey.trans (congrArg xs (by decide))
    subst ey
    refine lv_aload_n hx hb dL_law_744 rfl (lv_at hl 6 rfl) ?_
    refine lv_iload hx hb dL_law_745 (lv_at hl 1 rfl) ?_
    refine lv_iconst (v := 3) hx hb dL_law_747 (by decide) ?_
    refine lv_iadd hx hb dL_law_748 ?_
    refine va_sld hx hb hX hbl hbA hS (by unfold vp_in; decide) dL_law_749 ?_
    refine lv_topi (fun y ey => ?_)
    replace ey : y = (xs 3) := ey.trans (congrArg xs (by decide))
    subst ey
    refine lv_aload_n hx hb dL_law_750 rfl (lv_at hl 6 rfl) ?_
    refine lv_iload hx hb dL_law_751 (lv_at hl 1 rfl) ?_
    refine lv_iconst (v := 4) hx hb dL_law_753 (by decide) ?_
    refine lv_iadd hx hb dL_law_754 ?_
    refine va_sld hx hb hX hbl hbA hS (by unfold vp_in; decide) dL_law_755 ?_
    refine lv_topi (fun y ey => ?_)
    replace ey : y = (xs 4) := ey.trans (congrArg xs (by decide))
    subst ey
    have hPc := hP.sub (ws' := [(om, .inr (20, [.ref mt, .ref qu, .int 0, .int 0, .ref lv, .int (-1), .int 0, .int 0, .ref mi, .int 0, .int 0, .int 0, .int 0, .ref ml, .ref mss, .ref rn, .ref sw, .ref mf, .null, .int 0, .ref msp, .int 0, .int 0, .int 0])), (lv, .inr (1, [.int 0, .ref de, .int 0])), (rn, .inr (1, [.int 0, .ref de, .int 0])), (sw, .inr (1, [.int 0, .ref de, .int 0])), (ml, .inl (cS, 6, .inl (slotF))), (mf, .inl (cF, 96, .inl (fun _ => 0)))]) [0, 1, 2, 3, 4, 5] rfl
    have hDc := hD.sub (ws' := [(om, .inr (20, [.ref mt, .ref qu, .int 0, .int 0, .ref lv, .int (-1), .int 0, .int 0, .ref mi, .int 0, .int 0, .int 0, .int 0, .ref ml, .ref mss, .ref rn, .ref sw, .ref mf, .null, .int 0, .ref msp, .int 0, .int 0, .int 0])), (lv, .inr (1, [.int 0, .ref de, .int 0])), (rn, .inr (1, [.int 0, .ref de, .int 0])), (sw, .inr (1, [.int 0, .ref de, .int 0])), (ml, .inl (cS, 6, .inl (slotF))), (mf, .inl (cF, 96, .inl (fun _ => 0)))]) [0, 1, 2, 3, 4, 5] (by decide) rfl
    have hKc := hK.sub (tys' := [(cS, .int), (cF, .int)]) [0, 1] rfl
    have hFc := va_free (wc := [(om, .inr (20, [.ref mt, .ref qu, .int 0, .int 0, .ref lv, .int (-1), .int 0, .int 0, .ref mi, .int 0, .int 0, .int 0, .int 0, .ref ml, .ref mss, .ref rn, .ref sw, .ref mf, .null, .int 0, .ref msp, .int 0, .int 0, .int 0])), (lv, .inr (1, [.int 0, .ref de, .int 0])), (rn, .inr (1, [.int 0, .ref de, .int 0])), (sw, .inr (1, [.int 0, .ref de, .int 0])), (ml, .inl (cS, 6, .inl (slotF))), (mf, .inl (cF, 96, .inl (fun _ => 0)))]) hD hS hA [0, 1, 2, 3, 4, 5] rfl
    refine va_calli (va_runV (As := [.int (xs 1), .int (xs 2), .int (xs 3), .int (xs 4)]) (rest := []) ⟨hx, hb, hml, hown, ht⟩ (c_X18_guard l dC dI de (om) (mt) (qu) (lv) (mi) (ml) (mss) (rn) (sw) (mf) (msp) (cS) (cF) (0) ((xs 1)) ((xs 2)) ((xs 3)) ((xs 4)) H.size) (cwV 4 ht (gWV (wr_23 _ (List.mem_of_getElem? (i := 2) rfl)) (wr_23 _ (List.mem_of_getElem? (i := 3) rfl)) (wr_23 _ (List.mem_of_getElem? (i := 4) rfl)) (wr_1 _ (List.mem_of_getElem? (i := 5) rfl)) (wr_23 _ (List.mem_of_getElem? (i := 5) rfl))) rfl rfl rfl (by decide +kernel) ⟨Nat.le_of_ble_eq_true rfl, Nat.le_of_ble_eq_true rfl⟩) ⟨PW_blind, va_recv hKc hPc (ci := 20) (q0 := 0) rfl rfl, PW_call hPc hDc hKc hS hG hFc⟩ rfl rfl hl.1 rfl (lv_room (Nat.le_of_ble_eq_true rfl)) dL_law_756 ⟨Nat.le_of_ble_eq_true rfl, Nat.le_of_ble_eq_true rfl⟩) hS (fun q _ h => hFc q h) hFc (fun r_756 u t H1 locs ht9 hvm hw hB hz1 hk1 hS => ?_)
    obtain ⟨hP1, hK1, hD1⟩ := hB
    rw [ht9] at hP1
    have hK1 := va_K.moved hvm.symm hK1
    obtain ⟨hP, hD⟩ := va_join (wr := [(od, .inl (cE, 1, .inr (.inr (.inr (.inl (fun _ => 0))))))]) (w1 := [(om, .inr (20, [.ref mt, .ref qu, .int 0, .int 1, .ref lv, .int (-1), .int 0, .int 0, .ref mi, .int 0, .int 0, .int 0, .int 0, .ref ml, .ref mss, .ref rn, .ref sw, .ref mf, .null, .int 0, .ref msp, .int 0, .int 0, .int 0])), (lv, .inr (1, [.int 0, .ref de, .int 0])), (rn, .inr (1, [.int 0, .ref de, .int 0])), (sw, .inr (1, [.int 0, .ref de, .int 0])), (ml, .inl (cS, 6, .inl (slotF))), (mf, .inl (cF, 96, .inl (fun _ => 0)))]) hP hD [0, 1, 2, 3, 4, 5] [6] rfl rfl (by decide) (by decide) hk1 hFc hP1 hD1
    have hK := (hK.sub (tys' := [(cE, .double)]) [2] rfl).app hK1
    generalize H1 = H at hP hS ⊢
    replace hP : va_P (dC, dI) vwCl [(od, .inl (cE, 1, .inr (.inr (.inr (.inl (fun _ => 0)))))), (om, .inr (20, [.ref mt, .ref qu, .int 0, .int 1, .ref lv, .int (-1), .int 0, .int 0, .ref mi, .int 0, .int 0, .int 0, .int 0, .ref ml, .ref mss, .ref rn, .ref sw, .ref mf, .null, .int 0, .ref msp, .int 0, .int 0, .int 0])), (lv, .inr (1, [.int 0, .ref de, .int 0])), (rn, .inr (1, [.int 0, .ref de, .int 0])), (sw, .inr (1, [.int 0, .ref de, .int 0])), (ml, .inl (cS, 6, .inl (slotF))), (mf, .inl (cF, 96, .inl (fun _ => 0)))] H := hP
    replace hD : va_D A [(od, .inl (cE, 1, .inr (.inr (.inr (.inl (fun _ => 0)))))), (om, .inr (20, [.ref mt, .ref qu, .int 0, .int 1, .ref lv, .int (-1), .int 0, .int 0, .ref mi, .int 0, .int 0, .int 0, .int 0, .ref ml, .ref mss, .ref rn, .ref sw, .ref mf, .null, .int 0, .ref msp, .int 0, .int 0, .int 0])), (lv, .inr (1, [.int 0, .ref de, .int 0])), (rn, .inr (1, [.int 0, .ref de, .int 0])), (sw, .inr (1, [.int 0, .ref de, .int 0])), (ml, .inl (cS, 6, .inl (slotF))), (mf, .inl (cF, 96, .inl (fun _ => 0)))] := hD
    have hK : va_K (dC, dI) vwCl [(cE, .double), (cS, .int), (cF, .int)] s := hK
    have hw_756 := hw
    refine lv_istore (lv' := [(7, .int r_756), (6, .int 1), (5, .int 0), (4, .ref od), (3, .ref oq), (2, .ref om), (1, .ref ox), (0, .ref b)]) hx hb dL_law_759 hl (by decide) rfl (fun ls hl => ?_)
    refine lv_aload_n hx hb dL_law_761 rfl (lv_at hl 5 rfl) ?_
    have hPc := hP.sub (ws' := [(om, .inr (20, [.ref mt, .ref qu, .int 0, .int 1, .ref lv, .int (-1), .int 0, .int 0, .ref mi, .int 0, .int 0, .int 0, .int 0, .ref ml, .ref mss, .ref rn, .ref sw, .ref mf, .null, .int 0, .ref msp, .int 0, .int 0, .int 0]))]) [1] rfl
    have hDc := hD.sub (ws' := [(om, .inr (20, [.ref mt, .ref qu, .int 0, .int 1, .ref lv, .int (-1), .int 0, .int 0, .ref mi, .int 0, .int 0, .int 0, .int 0, .ref ml, .ref mss, .ref rn, .ref sw, .ref mf, .null, .int 0, .ref msp, .int 0, .int 0, .int 0]))]) [1] (by decide) rfl
    have hKc := hK.sub (tys' := []) [] rfl
    have hFc := va_free (wc := [(om, .inr (20, [.ref mt, .ref qu, .int 0, .int 1, .ref lv, .int (-1), .int 0, .int 0, .ref mi, .int 0, .int 0, .int 0, .int 0, .ref ml, .ref mss, .ref rn, .ref sw, .ref mf, .null, .int 0, .ref msp, .int 0, .int 0, .int 0]))]) hD hS hA [1] rfl
    refine va_calli (va_runV (As := []) (rest := []) ⟨hx, hb, hml, hown, ht⟩ (c_thrown1 l dC dI de (om) (mt) (qu) (lv) (mi) (ml) (mss) (rn) (sw) (mf) (msp) (1) H.size) (cwV 0 ht (gWV (wr_18 _ (List.mem_of_getElem? (i := 5) rfl)) (wr_18 _ (List.mem_of_getElem? (i := 6) rfl)) (wr_18 _ (List.mem_of_getElem? (i := 7) rfl)) (wr_1 _ (List.mem_of_getElem? (i := 5) rfl)) (wr_18 _ (List.mem_of_getElem? (i := 8) rfl))) rfl rfl rfl (by decide +kernel) ⟨Nat.le_of_ble_eq_true rfl, Nat.le_of_ble_eq_true rfl⟩) ⟨PW_blind, va_recv hKc hPc (ci := 20) (q0 := 0) rfl rfl, PW_call hPc hDc hKc hS hG hFc⟩ rfl rfl hl.1 rfl (lv_room (Nat.le_of_ble_eq_true rfl)) dL_law_762 ⟨Nat.le_of_ble_eq_true rfl, Nat.le_of_ble_eq_true rfl⟩) hS (fun q _ h => hFc q h) hFc (fun r_762 u t H1 locs ht9 hvm hw hB hz1 hk1 hS => ?_)
    obtain ⟨hP1, hK1, hD1⟩ := hB
    rw [ht9] at hP1
    have hK1 := va_K.moved hvm.symm hK1
    obtain ⟨hP, hD⟩ := va_join (wr := [(od, .inl (cE, 1, .inr (.inr (.inr (.inl (fun _ => 0)))))), (lv, .inr (1, [.int 0, .ref de, .int 0])), (rn, .inr (1, [.int 0, .ref de, .int 0])), (sw, .inr (1, [.int 0, .ref de, .int 0])), (ml, .inl (cS, 6, .inl (slotF))), (mf, .inl (cF, 96, .inl (fun _ => 0)))]) (w1 := [(om, .inr (20, [.ref mt, .ref qu, .int 0, .int 1, .ref lv, .int (-1), .int 0, .int 0, .ref mi, .int 0, .int 0, .int 0, .int 0, .ref ml, .ref mss, .ref rn, .ref sw, .ref mf, .null, .int 0, .ref msp, .int 0, .int 0, .int 0]))]) hP hD [1] [0, 2, 3, 4, 5, 6] rfl rfl (by decide) (by decide) hk1 hFc hP1 hD1
    have hK := (hK.sub (tys' := [(cE, .double), (cS, .int), (cF, .int)]) [0, 1, 2] rfl).app hK1
    generalize H1 = H at hP hS ⊢
    replace hP : va_P (dC, dI) vwCl [(od, .inl (cE, 1, .inr (.inr (.inr (.inl (fun _ => 0)))))), (lv, .inr (1, [.int 0, .ref de, .int 0])), (rn, .inr (1, [.int 0, .ref de, .int 0])), (sw, .inr (1, [.int 0, .ref de, .int 0])), (ml, .inl (cS, 6, .inl (slotF))), (mf, .inl (cF, 96, .inl (fun _ => 0))), (om, .inr (20, [.ref mt, .ref qu, .int 0, .int 1, .ref lv, .int (-1), .int 0, .int 0, .ref mi, .int 0, .int 0, .int 0, .int 0, .ref ml, .ref mss, .ref rn, .ref sw, .ref mf, .null, .int 0, .ref msp, .int 0, .int 0, .int 0]))] H := hP
    replace hD : va_D A [(od, .inl (cE, 1, .inr (.inr (.inr (.inl (fun _ => 0)))))), (lv, .inr (1, [.int 0, .ref de, .int 0])), (rn, .inr (1, [.int 0, .ref de, .int 0])), (sw, .inr (1, [.int 0, .ref de, .int 0])), (ml, .inl (cS, 6, .inl (slotF))), (mf, .inl (cF, 96, .inl (fun _ => 0))), (om, .inr (20, [.ref mt, .ref qu, .int 0, .int 1, .ref lv, .int (-1), .int 0, .int 0, .ref mi, .int 0, .int 0, .int 0, .int 0, .ref ml, .ref mss, .ref rn, .ref sw, .ref mf, .null, .int 0, .ref msp, .int 0, .int 0, .int 0]))] := hD
    have hK : va_K (dC, dI) vwCl [(cE, .double), (cS, .int), (cF, .int)] s := hK
    have e_762 : r_762 = 1 := hw
    subst e_762
    refine lv_iload hx hb dL_law_765 (lv_at hl 1 rfl) ?_
    refine lv_icmp_eq (tgt := 772) hx hb dL_law_767 (by decide) (fun c_767 => ?_) (fun c_767 => absurd c_767 (by decide))
    refine lv_iload hx hb dL_law_772 (lv_at hl 1 rfl) ?_
    refine lv_if_ne (tgt := 789) hx hb dL_law_774 (by decide) (fun c_774 => ?_) (fun c_774 => absurd c_774 (by decide))
    refine lv_goto (tgt := 3236) hx hb dL_law_789 (by decide) ?_
    exact law_end C1 (lv_sub hl [2, 7] rfl) hS (Nat.le_of_ble_eq_true rfl) (Nat.le_of_ble_eq_true rfl)
set_option maxHeartbeats 4000000 in
set_option maxRecDepth 100000 in
theorem lc_6 {p : Program} {l : Launch} {e : Env} {s : State} {m : MethodId} {below : List Frame} {meth : Method} {c : Code} {b : Nat} {xs : Nat → Int32} {de : Nat} {A : Nat → Prop} (C0 : LX p l s m meth c b xs de A) {dC : Nat → ClassId} {dI : Nat → Nat → Nat} {ox pl ru sh sp sl gr re pr ga rp bo fa gpl gin bbe bdi om mt qu lv mi ml mss rn sw mf msp oq od : Nat} {cP cI cS cF cL cE : ClassId} {H : Heap} {locs : List Loc} {ls : Array Slot} (hl : lv_has ls 9 [(5, .int 0), (4, .ref od), (3, .ref oq), (2, .ref om), (1, .ref ox), (0, .ref b)]) (hK : va_K (dC, dI) vwCl [(cP, .object "Levelsmith$Player"), (cI, .int), (cS, .int), (cF, .int), (cL, .long), (cE, .double)] s) (hP : va_P (dC, dI) vwCl (WLL ox pl ru sh sp sl gr re pr ga rp bo fa gpl gin bbe bdi om mt qu lv mi ml mss rn sw mf msp oq od cP cI cS cF cL cE de) H) (hD : va_D A (WLL ox pl ru sh sp sl gr re pr ga rp bo fa gpl gin bbe bdi om mt qu lv mi ml mss rn sw mf msp oq od cP cI cS cF cL cE de)) (hS : va_S A s.heap H locs) : W p l e room_1 s m #[Value.ref b] below meth c H locs 64 1163523 (lw_Z below #[Value.ref b] s) (F0 m 792 ls []) := by
  have C1 := C0
  obtain ⟨hlt, hx, hb, hr, hml, hown, ht, hX, hbl, hlocks, hG, hA, hAs, hbA⟩ := C0
  replace hP : va_P (dC, dI) vwCl [(ox, .inr (13, [.ref pl, .ref ru, .ref sh, .ref sp, .ref sl, .ref gr, .ref re, .ref pr, .ref ga, .ref rp, .ref bo, .int 0])), (pl, .inr (1, [.int 0, .ref de, .int 0])), (ru, .inr (1, [.int 0, .ref de, .int 0])), (sh, .inr (1, [.int 0, .ref de, .int 0])), (sp, .inl (cP, 6, .inr (.inr (.inr (.inr (fun _ => none)))))), (ga, .inr (5, [.ref gpl, .ref gin, .int (-1), .int 0, .int 112, .int 0])), (bo, .inr (2, [.ref fa, .ref bbe, .ref bdi, .int 0, .int 0])), (fa, .inl (cI, 96, .inl (fun _ => 0))), (om, .inr (20, [.ref mt, .ref qu, .int 0, .int 0, .ref lv, .int (-1), .int 0, .int 0, .ref mi, .int 0, .int 0, .int 0, .int 0, .ref ml, .ref mss, .ref rn, .ref sw, .ref mf, .null, .int 0, .ref msp, .int 0, .int 0, .int 0])), (lv, .inr (1, [.int 0, .ref de, .int 0])), (rn, .inr (1, [.int 0, .ref de, .int 0])), (sw, .inr (1, [.int 0, .ref de, .int 0])), (ml, .inl (cS, 6, .inl (slotF))), (mf, .inl (cF, 96, .inl (fun _ => 0))), (oq, .inl (cL, 1, .inr (.inl (fun _ => 0)))), (od, .inl (cE, 1, .inr (.inr (.inr (.inl (fun _ => 0))))))] H := hP
  replace hD : va_D A [(ox, .inr (13, [.ref pl, .ref ru, .ref sh, .ref sp, .ref sl, .ref gr, .ref re, .ref pr, .ref ga, .ref rp, .ref bo, .int 0])), (pl, .inr (1, [.int 0, .ref de, .int 0])), (ru, .inr (1, [.int 0, .ref de, .int 0])), (sh, .inr (1, [.int 0, .ref de, .int 0])), (sp, .inl (cP, 6, .inr (.inr (.inr (.inr (fun _ => none)))))), (ga, .inr (5, [.ref gpl, .ref gin, .int (-1), .int 0, .int 112, .int 0])), (bo, .inr (2, [.ref fa, .ref bbe, .ref bdi, .int 0, .int 0])), (fa, .inl (cI, 96, .inl (fun _ => 0))), (om, .inr (20, [.ref mt, .ref qu, .int 0, .int 0, .ref lv, .int (-1), .int 0, .int 0, .ref mi, .int 0, .int 0, .int 0, .int 0, .ref ml, .ref mss, .ref rn, .ref sw, .ref mf, .null, .int 0, .ref msp, .int 0, .int 0, .int 0])), (lv, .inr (1, [.int 0, .ref de, .int 0])), (rn, .inr (1, [.int 0, .ref de, .int 0])), (sw, .inr (1, [.int 0, .ref de, .int 0])), (ml, .inl (cS, 6, .inl (slotF))), (mf, .inl (cF, 96, .inl (fun _ => 0))), (oq, .inl (cL, 1, .inr (.inl (fun _ => 0)))), (od, .inl (cE, 1, .inr (.inr (.inr (.inl (fun _ => 0))))))] := hD
  refine lv_aload_n hx hb dL_law_792 rfl (lv_at hl 4 rfl) ?_
  refine lv_aload_n hx hb dL_law_793 rfl (lv_at hl 5 rfl) ?_
  refine lv_iload hx hb dL_law_794 (lv_at hl 0 rfl) ?_
  refine lv_iconst (v := 1) hx hb dL_law_796 (by decide) ?_
  refine lv_iadd hx hb dL_law_797 ?_
  refine va_sld hx hb hX hbl hbA hS (by unfold vp_in; decide) dL_law_798 ?_
  refine lv_topi (fun y ey => ?_)
  replace ey : y = (xs 1) := ey.trans (congrArg xs (by decide))
  subst ey
  refine lv_aload_n hx hb dL_law_799 rfl (lv_at hl 5 rfl) ?_
  refine lv_iload hx hb dL_law_800 (lv_at hl 0 rfl) ?_
  refine lv_iconst (v := 2) hx hb dL_law_802 (by decide) ?_
  refine lv_iadd hx hb dL_law_803 ?_
  refine va_sld hx hb hX hbl hbA hS (by unfold vp_in; decide) dL_law_804 ?_
  refine lv_topi (fun y ey => ?_)
  replace ey : y = (xs 2) := ey.trans (congrArg xs (by decide))
  subst ey
  refine lv_aload_n hx hb dL_law_805 rfl (lv_at hl 5 rfl) ?_
  refine lv_iload hx hb dL_law_806 (lv_at hl 0 rfl) ?_
  refine lv_iconst (v := 3) hx hb dL_law_808 (by decide) ?_
  refine lv_iadd hx hb dL_law_809 ?_
  refine va_sld hx hb hX hbl hbA hS (by unfold vp_in; decide) dL_law_810 ?_
  refine lv_topi (fun y ey => ?_)
  replace ey : y = (xs 3) := ey.trans (congrArg xs (by decide))
  subst ey
  refine lv_aload_n hx hb dL_law_811 rfl (lv_at hl 2 rfl) ?_
  have hPc := hP.sub (ws' := [(ox, .inr (13, [.ref pl, .ref ru, .ref sh, .ref sp, .ref sl, .ref gr, .ref re, .ref pr, .ref ga, .ref rp, .ref bo, .int 0])), (pl, .inr (1, [.int 0, .ref de, .int 0])), (ru, .inr (1, [.int 0, .ref de, .int 0])), (sh, .inr (1, [.int 0, .ref de, .int 0])), (sp, .inl (cP, 6, .inr (.inr (.inr (.inr (fun _ => none)))))), (ga, .inr (5, [.ref gpl, .ref gin, .int (-1), .int 0, .int 112, .int 0])), (bo, .inr (2, [.ref fa, .ref bbe, .ref bdi, .int 0, .int 0])), (fa, .inl (cI, 96, .inl (fun _ => 0))), (oq, .inl (cL, 1, .inr (.inl (fun _ => 0))))]) [0, 1, 2, 3, 4, 5, 6, 7, 14] rfl
  have hDc := hD.sub (ws' := [(ox, .inr (13, [.ref pl, .ref ru, .ref sh, .ref sp, .ref sl, .ref gr, .ref re, .ref pr, .ref ga, .ref rp, .ref bo, .int 0])), (pl, .inr (1, [.int 0, .ref de, .int 0])), (ru, .inr (1, [.int 0, .ref de, .int 0])), (sh, .inr (1, [.int 0, .ref de, .int 0])), (sp, .inl (cP, 6, .inr (.inr (.inr (.inr (fun _ => none)))))), (ga, .inr (5, [.ref gpl, .ref gin, .int (-1), .int 0, .int 112, .int 0])), (bo, .inr (2, [.ref fa, .ref bbe, .ref bdi, .int 0, .int 0])), (fa, .inl (cI, 96, .inl (fun _ => 0))), (oq, .inl (cL, 1, .inr (.inl (fun _ => 0))))]) [0, 1, 2, 3, 4, 5, 6, 7, 14] (by decide) rfl
  have hKc := hK.sub (tys' := [(cP, .object "Levelsmith$Player"), (cI, .int), (cL, .long)]) [0, 1, 4] rfl
  have hFc := va_free (wc := [(ox, .inr (13, [.ref pl, .ref ru, .ref sh, .ref sp, .ref sl, .ref gr, .ref re, .ref pr, .ref ga, .ref rp, .ref bo, .int 0])), (pl, .inr (1, [.int 0, .ref de, .int 0])), (ru, .inr (1, [.int 0, .ref de, .int 0])), (sh, .inr (1, [.int 0, .ref de, .int 0])), (sp, .inl (cP, 6, .inr (.inr (.inr (.inr (fun _ => none)))))), (ga, .inr (5, [.ref gpl, .ref gin, .int (-1), .int 0, .int 112, .int 0])), (bo, .inr (2, [.ref fa, .ref bbe, .ref bdi, .int 0, .int 0])), (fa, .inl (cI, 96, .inl (fun _ => 0))), (oq, .inl (cL, 1, .inr (.inl (fun _ => 0))))]) hD hS hA [0, 1, 2, 3, 4, 5, 6, 7, 14] rfl
  refine vx_calli (vx_runSX (As := [.ref ox, .int (xs 1), .int (xs 2), .int (xs 3), .ref oq]) (rest := []) ⟨hx, hb, hml, hown, ht⟩ (c_L_guardAt l hlt dC dI de (ox) (pl) (ru) (sh) (sp) (sl) (gr) (re) (pr) (ga) (rp) (bo) (fa) (gpl) (gin) (bbe) (bdi) (cP) (cI) (oq) (cL) ((xs 1)) ((xs 2)) ((xs 3)) H.size) (vx_cwSW 5 ht (gWX (wr_23 _ (List.mem_of_getElem? (i := 16) rfl)) (wr_23 _ (List.mem_of_getElem? (i := 17) rfl)) (wr_9 _ (List.mem_of_getElem? (i := 13) rfl)) (wr_23 _ (List.mem_of_getElem? (i := 18) rfl))) rfl rfl rfl (by decide +kernel) ⟨Nat.le_of_ble_eq_true rfl, Nat.le_of_ble_eq_true rfl⟩) ⟨PW_blind, PW_call hPc hDc hKc hS hG hFc⟩ rfl rfl hl.1 rfl (lv_room (Nat.le_of_ble_eq_true rfl)) dL_law_812 ⟨Nat.le_of_ble_eq_true rfl, Nat.le_of_ble_eq_true rfl⟩) hS (fun q _ h => hFc q h) hFc (fun q _ h => hFc q h) (fun E ce q9 u t H1 locs1 ht9 hvm9 _ hR9 hz9 hk9 hS9 hc9 hv9 hcl9 => ?_) (fun r_812 u t H1 locs ht9 hvm hw hB hz1 hk1 hS => ?_)
  · exact False.elim hR9
  · obtain ⟨hP1, hK1, hD1⟩ := hB
    rw [ht9] at hP1
    have hK1 := va_K.moved hvm.symm hK1
    obtain ⟨hP, hD⟩ := va_join (wr := [(om, .inr (20, [.ref mt, .ref qu, .int 0, .int 0, .ref lv, .int (-1), .int 0, .int 0, .ref mi, .int 0, .int 0, .int 0, .int 0, .ref ml, .ref mss, .ref rn, .ref sw, .ref mf, .null, .int 0, .ref msp, .int 0, .int 0, .int 0])), (lv, .inr (1, [.int 0, .ref de, .int 0])), (rn, .inr (1, [.int 0, .ref de, .int 0])), (sw, .inr (1, [.int 0, .ref de, .int 0])), (ml, .inl (cS, 6, .inl (slotF))), (mf, .inl (cF, 96, .inl (fun _ => 0))), (od, .inl (cE, 1, .inr (.inr (.inr (.inl (fun _ => 0))))))]) (w1 := []) hP hD [0, 1, 2, 3, 4, 5, 6, 7, 14] [8, 9, 10, 11, 12, 13, 15] rfl rfl (by decide) (by decide) hk1 hFc hP1 hD1
    have hK := (hK.sub (tys' := [(cS, .int), (cF, .int), (cE, .double)]) [2, 3, 5] rfl).app hK1
    generalize H1 = H at hP hS ⊢
    replace hP : va_P (dC, dI) vwCl [(om, .inr (20, [.ref mt, .ref qu, .int 0, .int 0, .ref lv, .int (-1), .int 0, .int 0, .ref mi, .int 0, .int 0, .int 0, .int 0, .ref ml, .ref mss, .ref rn, .ref sw, .ref mf, .null, .int 0, .ref msp, .int 0, .int 0, .int 0])), (lv, .inr (1, [.int 0, .ref de, .int 0])), (rn, .inr (1, [.int 0, .ref de, .int 0])), (sw, .inr (1, [.int 0, .ref de, .int 0])), (ml, .inl (cS, 6, .inl (slotF))), (mf, .inl (cF, 96, .inl (fun _ => 0))), (od, .inl (cE, 1, .inr (.inr (.inr (.inl (fun _ => 0))))))] H := hP
    replace hD : va_D A [(om, .inr (20, [.ref mt, .ref qu, .int 0, .int 0, .ref lv, .int (-1), .int 0, .int 0, .ref mi, .int 0, .int 0, .int 0, .int 0, .ref ml, .ref mss, .ref rn, .ref sw, .ref mf, .null, .int 0, .ref msp, .int 0, .int 0, .int 0])), (lv, .inr (1, [.int 0, .ref de, .int 0])), (rn, .inr (1, [.int 0, .ref de, .int 0])), (sw, .inr (1, [.int 0, .ref de, .int 0])), (ml, .inl (cS, 6, .inl (slotF))), (mf, .inl (cF, 96, .inl (fun _ => 0))), (od, .inl (cE, 1, .inr (.inr (.inr (.inl (fun _ => 0))))))] := hD
    have hK : va_K (dC, dI) vwCl [(cS, .int), (cF, .int), (cE, .double)] s := hK
    refine W.widen (k := 65) (n := 1163529) (Nat.le_of_ble_eq_true rfl) (Nat.le_of_ble_eq_true rfl) ?_
    have e_812 : r_812 = 1 := hw
    subst e_812
    refine lv_istore (lv' := [(6, .int 1), (5, .int 0), (4, .ref od), (3, .ref oq), (2, .ref om), (1, .ref ox), (0, .ref b)]) hx hb dL_law_815 hl (by decide) rfl (fun ls hl => ?_)
    refine lv_aload_n hx hb dL_law_817 rfl (lv_at hl 4 rfl) ?_
    refine lv_aload_n hx hb dL_law_818 rfl (lv_at hl 6 rfl) ?_
    refine lv_iload hx hb dL_law_819 (lv_at hl 1 rfl) ?_
    refine lv_iconst (v := 1) hx hb dL_law_821 (by decide) ?_
    refine lv_iadd hx hb dL_law_822 ?_
    refine va_sld hx hb hX hbl hbA hS (by unfold vp_in; decide) dL_law_823 ?_
    refine lv_topi (fun y ey => ?_)
    replace ey : y = (xs 1) := ey.trans (congrArg xs (by decide))
    subst ey
    refine lv_aload_n hx hb dL_law_824 rfl (lv_at hl 6 rfl) ?_
    refine lv_iload hx hb dL_law_825 (lv_at hl 1 rfl) ?_
    refine lv_iconst (v := 2) hx hb dL_law_827 (by decide) ?_
    refine lv_iadd hx hb dL_law_828 ?_
    refine va_sld hx hb hX hbl hbA hS (by unfold vp_in; decide) dL_law_829 ?_
    refine lv_topi (fun y ey => ?_)
    replace ey : y = (xs 2) := ey.trans (congrArg xs (by decide))
    subst ey
    refine lv_aload_n hx hb dL_law_830 rfl (lv_at hl 6 rfl) ?_
    refine lv_iload hx hb dL_law_831 (lv_at hl 1 rfl) ?_
    refine lv_iconst (v := 3) hx hb dL_law_833 (by decide) ?_
    refine lv_iadd hx hb dL_law_834 ?_
    refine va_sld hx hb hX hbl hbA hS (by unfold vp_in; decide) dL_law_835 ?_
    refine lv_topi (fun y ey => ?_)
    replace ey : y = (xs 3) := ey.trans (congrArg xs (by decide))
    subst ey
    have hPc := hP.sub (ws' := [(om, .inr (20, [.ref mt, .ref qu, .int 0, .int 0, .ref lv, .int (-1), .int 0, .int 0, .ref mi, .int 0, .int 0, .int 0, .int 0, .ref ml, .ref mss, .ref rn, .ref sw, .ref mf, .null, .int 0, .ref msp, .int 0, .int 0, .int 0])), (lv, .inr (1, [.int 0, .ref de, .int 0])), (rn, .inr (1, [.int 0, .ref de, .int 0])), (sw, .inr (1, [.int 0, .ref de, .int 0])), (ml, .inl (cS, 6, .inl (slotF))), (mf, .inl (cF, 96, .inl (fun _ => 0)))]) [0, 1, 2, 3, 4, 5] rfl
    have hDc := hD.sub (ws' := [(om, .inr (20, [.ref mt, .ref qu, .int 0, .int 0, .ref lv, .int (-1), .int 0, .int 0, .ref mi, .int 0, .int 0, .int 0, .int 0, .ref ml, .ref mss, .ref rn, .ref sw, .ref mf, .null, .int 0, .ref msp, .int 0, .int 0, .int 0])), (lv, .inr (1, [.int 0, .ref de, .int 0])), (rn, .inr (1, [.int 0, .ref de, .int 0])), (sw, .inr (1, [.int 0, .ref de, .int 0])), (ml, .inl (cS, 6, .inl (slotF))), (mf, .inl (cF, 96, .inl (fun _ => 0)))]) [0, 1, 2, 3, 4, 5] (by decide) rfl
    have hKc := hK.sub (tys' := [(cS, .int), (cF, .int)]) [0, 1] rfl
    have hFc := va_free (wc := [(om, .inr (20, [.ref mt, .ref qu, .int 0, .int 0, .ref lv, .int (-1), .int 0, .int 0, .ref mi, .int 0, .int 0, .int 0, .int 0, .ref ml, .ref mss, .ref rn, .ref sw, .ref mf, .null, .int 0, .ref msp, .int 0, .int 0, .int 0])), (lv, .inr (1, [.int 0, .ref de, .int 0])), (rn, .inr (1, [.int 0, .ref de, .int 0])), (sw, .inr (1, [.int 0, .ref de, .int 0])), (ml, .inl (cS, 6, .inl (slotF))), (mf, .inl (cF, 96, .inl (fun _ => 0)))]) hD hS hA [0, 1, 2, 3, 4, 5] rfl
    refine va_calli (va_runV (As := [.int (xs 1), .int (xs 2), .int (xs 3)]) (rest := []) ⟨hx, hb, hml, hown, ht⟩ (c_X18_guardAt l dC dI de (om) (mt) (qu) (lv) (mi) (ml) (mss) (rn) (sw) (mf) (msp) (cS) (cF) (0) ((xs 1)) ((xs 2)) ((xs 3)) H.size) (cwV 3 ht (gWV (wr_24 _ (List.mem_of_getElem? (i := 3) rfl)) (wr_24 _ (List.mem_of_getElem? (i := 4) rfl)) (wr_24 _ (List.mem_of_getElem? (i := 5) rfl)) (wr_1 _ (List.mem_of_getElem? (i := 5) rfl)) (wr_24 _ (List.mem_of_getElem? (i := 6) rfl))) rfl rfl rfl (by decide +kernel) ⟨Nat.le_of_ble_eq_true rfl, Nat.le_of_ble_eq_true rfl⟩) ⟨PW_blind, va_recv hKc hPc (ci := 20) (q0 := 0) rfl rfl, PW_call hPc hDc hKc hS hG hFc⟩ rfl rfl hl.1 rfl (lv_room (Nat.le_of_ble_eq_true rfl)) dL_law_836 ⟨Nat.le_of_ble_eq_true rfl, Nat.le_of_ble_eq_true rfl⟩) hS (fun q _ h => hFc q h) hFc (fun r_836 u t H1 locs ht9 hvm hw hB hz1 hk1 hS => ?_)
    obtain ⟨hP1, hK1, hD1⟩ := hB
    rw [ht9] at hP1
    have hK1 := va_K.moved hvm.symm hK1
    obtain ⟨hP, hD⟩ := va_join (wr := [(od, .inl (cE, 1, .inr (.inr (.inr (.inl (fun _ => 0))))))]) (w1 := [(om, .inr (20, [.ref mt, .ref qu, .int 0, .int 1, .ref lv, .int (-1), .int 0, .int 0, .ref mi, .int 0, .int 0, .int 0, .int 0, .ref ml, .ref mss, .ref rn, .ref sw, .ref mf, .null, .int 0, .ref msp, .int 0, .int 0, .int 0])), (lv, .inr (1, [.int 0, .ref de, .int 0])), (rn, .inr (1, [.int 0, .ref de, .int 0])), (sw, .inr (1, [.int 0, .ref de, .int 0])), (ml, .inl (cS, 6, .inl (slotF))), (mf, .inl (cF, 96, .inl (fun _ => 0)))]) hP hD [0, 1, 2, 3, 4, 5] [6] rfl rfl (by decide) (by decide) hk1 hFc hP1 hD1
    have hK := (hK.sub (tys' := [(cE, .double)]) [2] rfl).app hK1
    generalize H1 = H at hP hS ⊢
    replace hP : va_P (dC, dI) vwCl [(od, .inl (cE, 1, .inr (.inr (.inr (.inl (fun _ => 0)))))), (om, .inr (20, [.ref mt, .ref qu, .int 0, .int 1, .ref lv, .int (-1), .int 0, .int 0, .ref mi, .int 0, .int 0, .int 0, .int 0, .ref ml, .ref mss, .ref rn, .ref sw, .ref mf, .null, .int 0, .ref msp, .int 0, .int 0, .int 0])), (lv, .inr (1, [.int 0, .ref de, .int 0])), (rn, .inr (1, [.int 0, .ref de, .int 0])), (sw, .inr (1, [.int 0, .ref de, .int 0])), (ml, .inl (cS, 6, .inl (slotF))), (mf, .inl (cF, 96, .inl (fun _ => 0)))] H := hP
    replace hD : va_D A [(od, .inl (cE, 1, .inr (.inr (.inr (.inl (fun _ => 0)))))), (om, .inr (20, [.ref mt, .ref qu, .int 0, .int 1, .ref lv, .int (-1), .int 0, .int 0, .ref mi, .int 0, .int 0, .int 0, .int 0, .ref ml, .ref mss, .ref rn, .ref sw, .ref mf, .null, .int 0, .ref msp, .int 0, .int 0, .int 0])), (lv, .inr (1, [.int 0, .ref de, .int 0])), (rn, .inr (1, [.int 0, .ref de, .int 0])), (sw, .inr (1, [.int 0, .ref de, .int 0])), (ml, .inl (cS, 6, .inl (slotF))), (mf, .inl (cF, 96, .inl (fun _ => 0)))] := hD
    have hK : va_K (dC, dI) vwCl [(cE, .double), (cS, .int), (cF, .int)] s := hK
    have hw_836 := hw
    refine lv_istore (lv' := [(7, .int r_836), (6, .int 1), (5, .int 0), (4, .ref od), (3, .ref oq), (2, .ref om), (1, .ref ox), (0, .ref b)]) hx hb dL_law_839 hl (by decide) rfl (fun ls hl => ?_)
    refine lv_aload_n hx hb dL_law_841 rfl (lv_at hl 5 rfl) ?_
    have hPc := hP.sub (ws' := [(om, .inr (20, [.ref mt, .ref qu, .int 0, .int 1, .ref lv, .int (-1), .int 0, .int 0, .ref mi, .int 0, .int 0, .int 0, .int 0, .ref ml, .ref mss, .ref rn, .ref sw, .ref mf, .null, .int 0, .ref msp, .int 0, .int 0, .int 0]))]) [1] rfl
    have hDc := hD.sub (ws' := [(om, .inr (20, [.ref mt, .ref qu, .int 0, .int 1, .ref lv, .int (-1), .int 0, .int 0, .ref mi, .int 0, .int 0, .int 0, .int 0, .ref ml, .ref mss, .ref rn, .ref sw, .ref mf, .null, .int 0, .ref msp, .int 0, .int 0, .int 0]))]) [1] (by decide) rfl
    have hKc := hK.sub (tys' := []) [] rfl
    have hFc := va_free (wc := [(om, .inr (20, [.ref mt, .ref qu, .int 0, .int 1, .ref lv, .int (-1), .int 0, .int 0, .ref mi, .int 0, .int 0, .int 0, .int 0, .ref ml, .ref mss, .ref rn, .ref sw, .ref mf, .null, .int 0, .ref msp, .int 0, .int 0, .int 0]))]) hD hS hA [1] rfl
    refine va_calli (va_runV (As := []) (rest := []) ⟨hx, hb, hml, hown, ht⟩ (c_thrown1 l dC dI de (om) (mt) (qu) (lv) (mi) (ml) (mss) (rn) (sw) (mf) (msp) (1) H.size) (cwV 0 ht (gWV (wr_18 _ (List.mem_of_getElem? (i := 5) rfl)) (wr_18 _ (List.mem_of_getElem? (i := 6) rfl)) (wr_18 _ (List.mem_of_getElem? (i := 7) rfl)) (wr_1 _ (List.mem_of_getElem? (i := 5) rfl)) (wr_18 _ (List.mem_of_getElem? (i := 8) rfl))) rfl rfl rfl (by decide +kernel) ⟨Nat.le_of_ble_eq_true rfl, Nat.le_of_ble_eq_true rfl⟩) ⟨PW_blind, va_recv hKc hPc (ci := 20) (q0 := 0) rfl rfl, PW_call hPc hDc hKc hS hG hFc⟩ rfl rfl hl.1 rfl (lv_room (Nat.le_of_ble_eq_true rfl)) dL_law_842 ⟨Nat.le_of_ble_eq_true rfl, Nat.le_of_ble_eq_true rfl⟩) hS (fun q _ h => hFc q h) hFc (fun r_842 u t H1 locs ht9 hvm hw hB hz1 hk1 hS => ?_)
    obtain ⟨hP1, hK1, hD1⟩ := hB
    rw [ht9] at hP1
    have hK1 := va_K.moved hvm.symm hK1
    obtain ⟨hP, hD⟩ := va_join (wr := [(od, .inl (cE, 1, .inr (.inr (.inr (.inl (fun _ => 0)))))), (lv, .inr (1, [.int 0, .ref de, .int 0])), (rn, .inr (1, [.int 0, .ref de, .int 0])), (sw, .inr (1, [.int 0, .ref de, .int 0])), (ml, .inl (cS, 6, .inl (slotF))), (mf, .inl (cF, 96, .inl (fun _ => 0)))]) (w1 := [(om, .inr (20, [.ref mt, .ref qu, .int 0, .int 1, .ref lv, .int (-1), .int 0, .int 0, .ref mi, .int 0, .int 0, .int 0, .int 0, .ref ml, .ref mss, .ref rn, .ref sw, .ref mf, .null, .int 0, .ref msp, .int 0, .int 0, .int 0]))]) hP hD [1] [0, 2, 3, 4, 5, 6] rfl rfl (by decide) (by decide) hk1 hFc hP1 hD1
    have hK := (hK.sub (tys' := [(cE, .double), (cS, .int), (cF, .int)]) [0, 1, 2] rfl).app hK1
    generalize H1 = H at hP hS ⊢
    replace hP : va_P (dC, dI) vwCl [(od, .inl (cE, 1, .inr (.inr (.inr (.inl (fun _ => 0)))))), (lv, .inr (1, [.int 0, .ref de, .int 0])), (rn, .inr (1, [.int 0, .ref de, .int 0])), (sw, .inr (1, [.int 0, .ref de, .int 0])), (ml, .inl (cS, 6, .inl (slotF))), (mf, .inl (cF, 96, .inl (fun _ => 0))), (om, .inr (20, [.ref mt, .ref qu, .int 0, .int 1, .ref lv, .int (-1), .int 0, .int 0, .ref mi, .int 0, .int 0, .int 0, .int 0, .ref ml, .ref mss, .ref rn, .ref sw, .ref mf, .null, .int 0, .ref msp, .int 0, .int 0, .int 0]))] H := hP
    replace hD : va_D A [(od, .inl (cE, 1, .inr (.inr (.inr (.inl (fun _ => 0)))))), (lv, .inr (1, [.int 0, .ref de, .int 0])), (rn, .inr (1, [.int 0, .ref de, .int 0])), (sw, .inr (1, [.int 0, .ref de, .int 0])), (ml, .inl (cS, 6, .inl (slotF))), (mf, .inl (cF, 96, .inl (fun _ => 0))), (om, .inr (20, [.ref mt, .ref qu, .int 0, .int 1, .ref lv, .int (-1), .int 0, .int 0, .ref mi, .int 0, .int 0, .int 0, .int 0, .ref ml, .ref mss, .ref rn, .ref sw, .ref mf, .null, .int 0, .ref msp, .int 0, .int 0, .int 0]))] := hD
    have hK : va_K (dC, dI) vwCl [(cE, .double), (cS, .int), (cF, .int)] s := hK
    have e_842 : r_842 = 1 := hw
    subst e_842
    refine lv_iload hx hb dL_law_845 (lv_at hl 1 rfl) ?_
    refine lv_icmp_eq (tgt := 852) hx hb dL_law_847 (by decide) (fun c_847 => ?_) (fun c_847 => absurd c_847 (by decide))
    refine lv_iload hx hb dL_law_852 (lv_at hl 1 rfl) ?_
    refine lv_if_ne (tgt := 869) hx hb dL_law_854 (by decide) (fun c_854 => ?_) (fun c_854 => absurd c_854 (by decide))
    refine lv_goto (tgt := 3236) hx hb dL_law_869 (by decide) ?_
    exact law_end C1 (lv_sub hl [2, 7] rfl) hS (Nat.le_of_ble_eq_true rfl) (Nat.le_of_ble_eq_true rfl)
set_option maxHeartbeats 4000000 in
set_option maxRecDepth 100000 in
theorem lc_7 {p : Program} {l : Launch} {e : Env} {s : State} {m : MethodId} {below : List Frame} {meth : Method} {c : Code} {b : Nat} {xs : Nat → Int32} {de : Nat} {A : Nat → Prop} (C0 : LX p l s m meth c b xs de A) {dC : Nat → ClassId} {dI : Nat → Nat → Nat} {ox pl ru sh sp sl gr re pr ga rp bo fa gpl gin bbe bdi om mt qu lv mi ml mss rn sw mf msp oq od : Nat} {cP cI cS cF cL cE : ClassId} {H : Heap} {locs : List Loc} {ls : Array Slot} (hl : lv_has ls 9 [(5, .int 0), (4, .ref od), (3, .ref oq), (2, .ref om), (1, .ref ox), (0, .ref b)]) (hK : va_K (dC, dI) vwCl [(cP, .object "Levelsmith$Player"), (cI, .int), (cS, .int), (cF, .int), (cL, .long), (cE, .double)] s) (hP : va_P (dC, dI) vwCl (WLL ox pl ru sh sp sl gr re pr ga rp bo fa gpl gin bbe bdi om mt qu lv mi ml mss rn sw mf msp oq od cP cI cS cF cL cE de) H) (hD : va_D A (WLL ox pl ru sh sp sl gr re pr ga rp bo fa gpl gin bbe bdi om mt qu lv mi ml mss rn sw mf msp oq od cP cI cS cF cL cE de)) (hS : va_S A s.heap H locs) : W p l e room_1 s m #[Value.ref b] below meth c H locs 64 1163523 (lw_Z below #[Value.ref b] s) (F0 m 872 ls []) := by
  have C1 := C0
  obtain ⟨hlt, hx, hb, hr, hml, hown, ht, hX, hbl, hlocks, hG, hA, hAs, hbA⟩ := C0
  replace hP : va_P (dC, dI) vwCl [(ox, .inr (13, [.ref pl, .ref ru, .ref sh, .ref sp, .ref sl, .ref gr, .ref re, .ref pr, .ref ga, .ref rp, .ref bo, .int 0])), (pl, .inr (1, [.int 0, .ref de, .int 0])), (ru, .inr (1, [.int 0, .ref de, .int 0])), (sh, .inr (1, [.int 0, .ref de, .int 0])), (sp, .inl (cP, 6, .inr (.inr (.inr (.inr (fun _ => none)))))), (ga, .inr (5, [.ref gpl, .ref gin, .int (-1), .int 0, .int 112, .int 0])), (bo, .inr (2, [.ref fa, .ref bbe, .ref bdi, .int 0, .int 0])), (fa, .inl (cI, 96, .inl (fun _ => 0))), (om, .inr (20, [.ref mt, .ref qu, .int 0, .int 0, .ref lv, .int (-1), .int 0, .int 0, .ref mi, .int 0, .int 0, .int 0, .int 0, .ref ml, .ref mss, .ref rn, .ref sw, .ref mf, .null, .int 0, .ref msp, .int 0, .int 0, .int 0])), (lv, .inr (1, [.int 0, .ref de, .int 0])), (rn, .inr (1, [.int 0, .ref de, .int 0])), (sw, .inr (1, [.int 0, .ref de, .int 0])), (ml, .inl (cS, 6, .inl (slotF))), (mf, .inl (cF, 96, .inl (fun _ => 0))), (oq, .inl (cL, 1, .inr (.inl (fun _ => 0)))), (od, .inl (cE, 1, .inr (.inr (.inr (.inl (fun _ => 0))))))] H := hP
  replace hD : va_D A [(ox, .inr (13, [.ref pl, .ref ru, .ref sh, .ref sp, .ref sl, .ref gr, .ref re, .ref pr, .ref ga, .ref rp, .ref bo, .int 0])), (pl, .inr (1, [.int 0, .ref de, .int 0])), (ru, .inr (1, [.int 0, .ref de, .int 0])), (sh, .inr (1, [.int 0, .ref de, .int 0])), (sp, .inl (cP, 6, .inr (.inr (.inr (.inr (fun _ => none)))))), (ga, .inr (5, [.ref gpl, .ref gin, .int (-1), .int 0, .int 112, .int 0])), (bo, .inr (2, [.ref fa, .ref bbe, .ref bdi, .int 0, .int 0])), (fa, .inl (cI, 96, .inl (fun _ => 0))), (om, .inr (20, [.ref mt, .ref qu, .int 0, .int 0, .ref lv, .int (-1), .int 0, .int 0, .ref mi, .int 0, .int 0, .int 0, .int 0, .ref ml, .ref mss, .ref rn, .ref sw, .ref mf, .null, .int 0, .ref msp, .int 0, .int 0, .int 0])), (lv, .inr (1, [.int 0, .ref de, .int 0])), (rn, .inr (1, [.int 0, .ref de, .int 0])), (sw, .inr (1, [.int 0, .ref de, .int 0])), (ml, .inl (cS, 6, .inl (slotF))), (mf, .inl (cF, 96, .inl (fun _ => 0))), (oq, .inl (cL, 1, .inr (.inl (fun _ => 0)))), (od, .inl (cE, 1, .inr (.inr (.inr (.inl (fun _ => 0))))))] := hD
  refine lv_aload_n hx hb dL_law_872 rfl (lv_at hl 4 rfl) ?_
  refine lv_aload_n hx hb dL_law_873 rfl (lv_at hl 5 rfl) ?_
  refine lv_iload hx hb dL_law_874 (lv_at hl 0 rfl) ?_
  refine lv_iconst (v := 1) hx hb dL_law_876 (by decide) ?_
  refine lv_iadd hx hb dL_law_877 ?_
  refine va_sld hx hb hX hbl hbA hS (by unfold vp_in; decide) dL_law_878 ?_
  refine lv_topi (fun y ey => ?_)
  replace ey : y = (xs 1) := ey.trans (congrArg xs (by decide))
  subst ey
  refine lv_aload_n hx hb dL_law_879 rfl (lv_at hl 2 rfl) ?_
  have hPc := hP.sub (ws' := [(ox, .inr (13, [.ref pl, .ref ru, .ref sh, .ref sp, .ref sl, .ref gr, .ref re, .ref pr, .ref ga, .ref rp, .ref bo, .int 0])), (pl, .inr (1, [.int 0, .ref de, .int 0])), (ru, .inr (1, [.int 0, .ref de, .int 0])), (sh, .inr (1, [.int 0, .ref de, .int 0])), (sp, .inl (cP, 6, .inr (.inr (.inr (.inr (fun _ => none)))))), (ga, .inr (5, [.ref gpl, .ref gin, .int (-1), .int 0, .int 112, .int 0])), (bo, .inr (2, [.ref fa, .ref bbe, .ref bdi, .int 0, .int 0])), (fa, .inl (cI, 96, .inl (fun _ => 0))), (oq, .inl (cL, 1, .inr (.inl (fun _ => 0))))]) [0, 1, 2, 3, 4, 5, 6, 7, 14] rfl
  have hDc := hD.sub (ws' := [(ox, .inr (13, [.ref pl, .ref ru, .ref sh, .ref sp, .ref sl, .ref gr, .ref re, .ref pr, .ref ga, .ref rp, .ref bo, .int 0])), (pl, .inr (1, [.int 0, .ref de, .int 0])), (ru, .inr (1, [.int 0, .ref de, .int 0])), (sh, .inr (1, [.int 0, .ref de, .int 0])), (sp, .inl (cP, 6, .inr (.inr (.inr (.inr (fun _ => none)))))), (ga, .inr (5, [.ref gpl, .ref gin, .int (-1), .int 0, .int 112, .int 0])), (bo, .inr (2, [.ref fa, .ref bbe, .ref bdi, .int 0, .int 0])), (fa, .inl (cI, 96, .inl (fun _ => 0))), (oq, .inl (cL, 1, .inr (.inl (fun _ => 0))))]) [0, 1, 2, 3, 4, 5, 6, 7, 14] (by decide) rfl
  have hKc := hK.sub (tys' := [(cP, .object "Levelsmith$Player"), (cI, .int), (cL, .long)]) [0, 1, 4] rfl
  have hFc := va_free (wc := [(ox, .inr (13, [.ref pl, .ref ru, .ref sh, .ref sp, .ref sl, .ref gr, .ref re, .ref pr, .ref ga, .ref rp, .ref bo, .int 0])), (pl, .inr (1, [.int 0, .ref de, .int 0])), (ru, .inr (1, [.int 0, .ref de, .int 0])), (sh, .inr (1, [.int 0, .ref de, .int 0])), (sp, .inl (cP, 6, .inr (.inr (.inr (.inr (fun _ => none)))))), (ga, .inr (5, [.ref gpl, .ref gin, .int (-1), .int 0, .int 112, .int 0])), (bo, .inr (2, [.ref fa, .ref bbe, .ref bdi, .int 0, .int 0])), (fa, .inl (cI, 96, .inl (fun _ => 0))), (oq, .inl (cL, 1, .inr (.inl (fun _ => 0))))]) hD hS hA [0, 1, 2, 3, 4, 5, 6, 7, 14] rfl
  refine vx_calli (vx_runSX (As := [.ref ox, .int (xs 1), .ref oq]) (rest := []) ⟨hx, hb, hml, hown, ht⟩ (c_L_copy l hlt dC dI de (ox) (pl) (ru) (sh) (sp) (sl) (gr) (re) (pr) (ga) (rp) (bo) (fa) (gpl) (gin) (bbe) (bdi) (cP) (cI) (oq) (cL) ((xs 1)) H.size) (vx_cwSW 3 ht (gWX (wr_24 _ (List.mem_of_getElem? (i := 16) rfl)) (wr_24 _ (List.mem_of_getElem? (i := 17) rfl)) (wr_9 _ (List.mem_of_getElem? (i := 13) rfl)) (wr_24 _ (List.mem_of_getElem? (i := 18) rfl))) rfl rfl rfl (by decide +kernel) ⟨Nat.le_of_ble_eq_true rfl, Nat.le_of_ble_eq_true rfl⟩) ⟨PW_blind, PW_call hPc hDc hKc hS hG hFc⟩ rfl rfl hl.1 rfl (lv_room (Nat.le_of_ble_eq_true rfl)) dL_law_880 ⟨Nat.le_of_ble_eq_true rfl, Nat.le_of_ble_eq_true rfl⟩) hS (fun q _ h => hFc q h) hFc (fun q _ h => hFc q h) (fun E ce q9 u t H1 locs1 ht9 hvm9 _ hR9 hz9 hk9 hS9 hc9 hv9 hcl9 => ?_) (fun r_880 u t H1 locs ht9 hvm hw hB hz1 hk1 hS => ?_)
  · exact False.elim hR9
  · obtain ⟨hP1, hK1, hD1⟩ := hB
    rw [ht9] at hP1
    have hK1 := va_K.moved hvm.symm hK1
    obtain ⟨hP, hD⟩ := va_join (wr := [(om, .inr (20, [.ref mt, .ref qu, .int 0, .int 0, .ref lv, .int (-1), .int 0, .int 0, .ref mi, .int 0, .int 0, .int 0, .int 0, .ref ml, .ref mss, .ref rn, .ref sw, .ref mf, .null, .int 0, .ref msp, .int 0, .int 0, .int 0])), (lv, .inr (1, [.int 0, .ref de, .int 0])), (rn, .inr (1, [.int 0, .ref de, .int 0])), (sw, .inr (1, [.int 0, .ref de, .int 0])), (ml, .inl (cS, 6, .inl (slotF))), (mf, .inl (cF, 96, .inl (fun _ => 0))), (od, .inl (cE, 1, .inr (.inr (.inr (.inl (fun _ => 0))))))]) (w1 := []) hP hD [0, 1, 2, 3, 4, 5, 6, 7, 14] [8, 9, 10, 11, 12, 13, 15] rfl rfl (by decide) (by decide) hk1 hFc hP1 hD1
    have hK := (hK.sub (tys' := [(cS, .int), (cF, .int), (cE, .double)]) [2, 3, 5] rfl).app hK1
    generalize H1 = H at hP hS ⊢
    replace hP : va_P (dC, dI) vwCl [(om, .inr (20, [.ref mt, .ref qu, .int 0, .int 0, .ref lv, .int (-1), .int 0, .int 0, .ref mi, .int 0, .int 0, .int 0, .int 0, .ref ml, .ref mss, .ref rn, .ref sw, .ref mf, .null, .int 0, .ref msp, .int 0, .int 0, .int 0])), (lv, .inr (1, [.int 0, .ref de, .int 0])), (rn, .inr (1, [.int 0, .ref de, .int 0])), (sw, .inr (1, [.int 0, .ref de, .int 0])), (ml, .inl (cS, 6, .inl (slotF))), (mf, .inl (cF, 96, .inl (fun _ => 0))), (od, .inl (cE, 1, .inr (.inr (.inr (.inl (fun _ => 0))))))] H := hP
    replace hD : va_D A [(om, .inr (20, [.ref mt, .ref qu, .int 0, .int 0, .ref lv, .int (-1), .int 0, .int 0, .ref mi, .int 0, .int 0, .int 0, .int 0, .ref ml, .ref mss, .ref rn, .ref sw, .ref mf, .null, .int 0, .ref msp, .int 0, .int 0, .int 0])), (lv, .inr (1, [.int 0, .ref de, .int 0])), (rn, .inr (1, [.int 0, .ref de, .int 0])), (sw, .inr (1, [.int 0, .ref de, .int 0])), (ml, .inl (cS, 6, .inl (slotF))), (mf, .inl (cF, 96, .inl (fun _ => 0))), (od, .inl (cE, 1, .inr (.inr (.inr (.inl (fun _ => 0))))))] := hD
    have hK : va_K (dC, dI) vwCl [(cS, .int), (cF, .int), (cE, .double)] s := hK
    refine W.widen (k := 65) (n := 1163529) (Nat.le_of_ble_eq_true rfl) (Nat.le_of_ble_eq_true rfl) ?_
    have e_880 : r_880 = 1 := hw
    subst e_880
    refine lv_istore (lv' := [(6, .int 1), (5, .int 0), (4, .ref od), (3, .ref oq), (2, .ref om), (1, .ref ox), (0, .ref b)]) hx hb dL_law_883 hl (by decide) rfl (fun ls hl => ?_)
    refine lv_aload_n hx hb dL_law_885 rfl (lv_at hl 4 rfl) ?_
    refine lv_aload_n hx hb dL_law_886 rfl (lv_at hl 6 rfl) ?_
    refine lv_iload hx hb dL_law_887 (lv_at hl 1 rfl) ?_
    refine lv_iconst (v := 1) hx hb dL_law_889 (by decide) ?_
    refine lv_iadd hx hb dL_law_890 ?_
    refine va_sld hx hb hX hbl hbA hS (by unfold vp_in; decide) dL_law_891 ?_
    refine lv_topi (fun y ey => ?_)
    replace ey : y = (xs 1) := ey.trans (congrArg xs (by decide))
    subst ey
    have hPc := hP.sub (ws' := [(om, .inr (20, [.ref mt, .ref qu, .int 0, .int 0, .ref lv, .int (-1), .int 0, .int 0, .ref mi, .int 0, .int 0, .int 0, .int 0, .ref ml, .ref mss, .ref rn, .ref sw, .ref mf, .null, .int 0, .ref msp, .int 0, .int 0, .int 0])), (lv, .inr (1, [.int 0, .ref de, .int 0])), (rn, .inr (1, [.int 0, .ref de, .int 0])), (sw, .inr (1, [.int 0, .ref de, .int 0])), (ml, .inl (cS, 6, .inl (slotF))), (mf, .inl (cF, 96, .inl (fun _ => 0)))]) [0, 1, 2, 3, 4, 5] rfl
    have hDc := hD.sub (ws' := [(om, .inr (20, [.ref mt, .ref qu, .int 0, .int 0, .ref lv, .int (-1), .int 0, .int 0, .ref mi, .int 0, .int 0, .int 0, .int 0, .ref ml, .ref mss, .ref rn, .ref sw, .ref mf, .null, .int 0, .ref msp, .int 0, .int 0, .int 0])), (lv, .inr (1, [.int 0, .ref de, .int 0])), (rn, .inr (1, [.int 0, .ref de, .int 0])), (sw, .inr (1, [.int 0, .ref de, .int 0])), (ml, .inl (cS, 6, .inl (slotF))), (mf, .inl (cF, 96, .inl (fun _ => 0)))]) [0, 1, 2, 3, 4, 5] (by decide) rfl
    have hKc := hK.sub (tys' := [(cS, .int), (cF, .int)]) [0, 1] rfl
    have hFc := va_free (wc := [(om, .inr (20, [.ref mt, .ref qu, .int 0, .int 0, .ref lv, .int (-1), .int 0, .int 0, .ref mi, .int 0, .int 0, .int 0, .int 0, .ref ml, .ref mss, .ref rn, .ref sw, .ref mf, .null, .int 0, .ref msp, .int 0, .int 0, .int 0])), (lv, .inr (1, [.int 0, .ref de, .int 0])), (rn, .inr (1, [.int 0, .ref de, .int 0])), (sw, .inr (1, [.int 0, .ref de, .int 0])), (ml, .inl (cS, 6, .inl (slotF))), (mf, .inl (cF, 96, .inl (fun _ => 0)))]) hD hS hA [0, 1, 2, 3, 4, 5] rfl
    refine va_calli (va_runV (As := [.int (xs 1)]) (rest := []) ⟨hx, hb, hml, hown, ht⟩ (c_X18_copy l dC dI de (om) (mt) (qu) (lv) (mi) (ml) (mss) (rn) (sw) (mf) (msp) (cS) (cF) (0) ((xs 1)) H.size) (cwV 1 ht (gWV (wr_25 _ (List.mem_of_getElem? (i := 4) rfl)) (wr_25 _ (List.mem_of_getElem? (i := 5) rfl)) (wr_25 _ (List.mem_of_getElem? (i := 6) rfl)) (wr_1 _ (List.mem_of_getElem? (i := 5) rfl)) (wr_25 _ (List.mem_of_getElem? (i := 7) rfl))) rfl rfl rfl (by decide +kernel) ⟨Nat.le_of_ble_eq_true rfl, Nat.le_of_ble_eq_true rfl⟩) ⟨PW_blind, va_recv hKc hPc (ci := 20) (q0 := 0) rfl rfl, PW_call hPc hDc hKc hS hG hFc⟩ rfl rfl hl.1 rfl (lv_room (Nat.le_of_ble_eq_true rfl)) dL_law_892 ⟨Nat.le_of_ble_eq_true rfl, Nat.le_of_ble_eq_true rfl⟩) hS (fun q _ h => hFc q h) hFc (fun r_892 u t H1 locs ht9 hvm hw hB hz1 hk1 hS => ?_)
    obtain ⟨hP1, hK1, hD1⟩ := hB
    rw [ht9] at hP1
    have hK1 := va_K.moved hvm.symm hK1
    obtain ⟨hP, hD⟩ := va_join (wr := [(od, .inl (cE, 1, .inr (.inr (.inr (.inl (fun _ => 0))))))]) (w1 := [(om, .inr (20, [.ref mt, .ref qu, .int 0, .int 1, .ref lv, .int (-1), .int 0, .int 0, .ref mi, .int 0, .int 0, .int 0, .int 0, .ref ml, .ref mss, .ref rn, .ref sw, .ref mf, .null, .int 0, .ref msp, .int 0, .int 0, .int 0])), (lv, .inr (1, [.int 0, .ref de, .int 0])), (rn, .inr (1, [.int 0, .ref de, .int 0])), (sw, .inr (1, [.int 0, .ref de, .int 0])), (ml, .inl (cS, 6, .inl (slotF))), (mf, .inl (cF, 96, .inl (fun _ => 0)))]) hP hD [0, 1, 2, 3, 4, 5] [6] rfl rfl (by decide) (by decide) hk1 hFc hP1 hD1
    have hK := (hK.sub (tys' := [(cE, .double)]) [2] rfl).app hK1
    generalize H1 = H at hP hS ⊢
    replace hP : va_P (dC, dI) vwCl [(od, .inl (cE, 1, .inr (.inr (.inr (.inl (fun _ => 0)))))), (om, .inr (20, [.ref mt, .ref qu, .int 0, .int 1, .ref lv, .int (-1), .int 0, .int 0, .ref mi, .int 0, .int 0, .int 0, .int 0, .ref ml, .ref mss, .ref rn, .ref sw, .ref mf, .null, .int 0, .ref msp, .int 0, .int 0, .int 0])), (lv, .inr (1, [.int 0, .ref de, .int 0])), (rn, .inr (1, [.int 0, .ref de, .int 0])), (sw, .inr (1, [.int 0, .ref de, .int 0])), (ml, .inl (cS, 6, .inl (slotF))), (mf, .inl (cF, 96, .inl (fun _ => 0)))] H := hP
    replace hD : va_D A [(od, .inl (cE, 1, .inr (.inr (.inr (.inl (fun _ => 0)))))), (om, .inr (20, [.ref mt, .ref qu, .int 0, .int 1, .ref lv, .int (-1), .int 0, .int 0, .ref mi, .int 0, .int 0, .int 0, .int 0, .ref ml, .ref mss, .ref rn, .ref sw, .ref mf, .null, .int 0, .ref msp, .int 0, .int 0, .int 0])), (lv, .inr (1, [.int 0, .ref de, .int 0])), (rn, .inr (1, [.int 0, .ref de, .int 0])), (sw, .inr (1, [.int 0, .ref de, .int 0])), (ml, .inl (cS, 6, .inl (slotF))), (mf, .inl (cF, 96, .inl (fun _ => 0)))] := hD
    have hK : va_K (dC, dI) vwCl [(cE, .double), (cS, .int), (cF, .int)] s := hK
    have hw_892 := hw
    refine lv_istore (lv' := [(7, .int r_892), (6, .int 1), (5, .int 0), (4, .ref od), (3, .ref oq), (2, .ref om), (1, .ref ox), (0, .ref b)]) hx hb dL_law_895 hl (by decide) rfl (fun ls hl => ?_)
    refine lv_aload_n hx hb dL_law_897 rfl (lv_at hl 5 rfl) ?_
    have hPc := hP.sub (ws' := [(om, .inr (20, [.ref mt, .ref qu, .int 0, .int 1, .ref lv, .int (-1), .int 0, .int 0, .ref mi, .int 0, .int 0, .int 0, .int 0, .ref ml, .ref mss, .ref rn, .ref sw, .ref mf, .null, .int 0, .ref msp, .int 0, .int 0, .int 0]))]) [1] rfl
    have hDc := hD.sub (ws' := [(om, .inr (20, [.ref mt, .ref qu, .int 0, .int 1, .ref lv, .int (-1), .int 0, .int 0, .ref mi, .int 0, .int 0, .int 0, .int 0, .ref ml, .ref mss, .ref rn, .ref sw, .ref mf, .null, .int 0, .ref msp, .int 0, .int 0, .int 0]))]) [1] (by decide) rfl
    have hKc := hK.sub (tys' := []) [] rfl
    have hFc := va_free (wc := [(om, .inr (20, [.ref mt, .ref qu, .int 0, .int 1, .ref lv, .int (-1), .int 0, .int 0, .ref mi, .int 0, .int 0, .int 0, .int 0, .ref ml, .ref mss, .ref rn, .ref sw, .ref mf, .null, .int 0, .ref msp, .int 0, .int 0, .int 0]))]) hD hS hA [1] rfl
    refine va_calli (va_runV (As := []) (rest := []) ⟨hx, hb, hml, hown, ht⟩ (c_thrown1 l dC dI de (om) (mt) (qu) (lv) (mi) (ml) (mss) (rn) (sw) (mf) (msp) (1) H.size) (cwV 0 ht (gWV (wr_18 _ (List.mem_of_getElem? (i := 5) rfl)) (wr_18 _ (List.mem_of_getElem? (i := 6) rfl)) (wr_18 _ (List.mem_of_getElem? (i := 7) rfl)) (wr_1 _ (List.mem_of_getElem? (i := 5) rfl)) (wr_18 _ (List.mem_of_getElem? (i := 8) rfl))) rfl rfl rfl (by decide +kernel) ⟨Nat.le_of_ble_eq_true rfl, Nat.le_of_ble_eq_true rfl⟩) ⟨PW_blind, va_recv hKc hPc (ci := 20) (q0 := 0) rfl rfl, PW_call hPc hDc hKc hS hG hFc⟩ rfl rfl hl.1 rfl (lv_room (Nat.le_of_ble_eq_true rfl)) dL_law_898 ⟨Nat.le_of_ble_eq_true rfl, Nat.le_of_ble_eq_true rfl⟩) hS (fun q _ h => hFc q h) hFc (fun r_898 u t H1 locs ht9 hvm hw hB hz1 hk1 hS => ?_)
    obtain ⟨hP1, hK1, hD1⟩ := hB
    rw [ht9] at hP1
    have hK1 := va_K.moved hvm.symm hK1
    obtain ⟨hP, hD⟩ := va_join (wr := [(od, .inl (cE, 1, .inr (.inr (.inr (.inl (fun _ => 0)))))), (lv, .inr (1, [.int 0, .ref de, .int 0])), (rn, .inr (1, [.int 0, .ref de, .int 0])), (sw, .inr (1, [.int 0, .ref de, .int 0])), (ml, .inl (cS, 6, .inl (slotF))), (mf, .inl (cF, 96, .inl (fun _ => 0)))]) (w1 := [(om, .inr (20, [.ref mt, .ref qu, .int 0, .int 1, .ref lv, .int (-1), .int 0, .int 0, .ref mi, .int 0, .int 0, .int 0, .int 0, .ref ml, .ref mss, .ref rn, .ref sw, .ref mf, .null, .int 0, .ref msp, .int 0, .int 0, .int 0]))]) hP hD [1] [0, 2, 3, 4, 5, 6] rfl rfl (by decide) (by decide) hk1 hFc hP1 hD1
    have hK := (hK.sub (tys' := [(cE, .double), (cS, .int), (cF, .int)]) [0, 1, 2] rfl).app hK1
    generalize H1 = H at hP hS ⊢
    replace hP : va_P (dC, dI) vwCl [(od, .inl (cE, 1, .inr (.inr (.inr (.inl (fun _ => 0)))))), (lv, .inr (1, [.int 0, .ref de, .int 0])), (rn, .inr (1, [.int 0, .ref de, .int 0])), (sw, .inr (1, [.int 0, .ref de, .int 0])), (ml, .inl (cS, 6, .inl (slotF))), (mf, .inl (cF, 96, .inl (fun _ => 0))), (om, .inr (20, [.ref mt, .ref qu, .int 0, .int 1, .ref lv, .int (-1), .int 0, .int 0, .ref mi, .int 0, .int 0, .int 0, .int 0, .ref ml, .ref mss, .ref rn, .ref sw, .ref mf, .null, .int 0, .ref msp, .int 0, .int 0, .int 0]))] H := hP
    replace hD : va_D A [(od, .inl (cE, 1, .inr (.inr (.inr (.inl (fun _ => 0)))))), (lv, .inr (1, [.int 0, .ref de, .int 0])), (rn, .inr (1, [.int 0, .ref de, .int 0])), (sw, .inr (1, [.int 0, .ref de, .int 0])), (ml, .inl (cS, 6, .inl (slotF))), (mf, .inl (cF, 96, .inl (fun _ => 0))), (om, .inr (20, [.ref mt, .ref qu, .int 0, .int 1, .ref lv, .int (-1), .int 0, .int 0, .ref mi, .int 0, .int 0, .int 0, .int 0, .ref ml, .ref mss, .ref rn, .ref sw, .ref mf, .null, .int 0, .ref msp, .int 0, .int 0, .int 0]))] := hD
    have hK : va_K (dC, dI) vwCl [(cE, .double), (cS, .int), (cF, .int)] s := hK
    have e_898 : r_898 = 1 := hw
    subst e_898
    refine lv_iload hx hb dL_law_901 (lv_at hl 1 rfl) ?_
    refine lv_icmp_eq (tgt := 908) hx hb dL_law_903 (by decide) (fun c_903 => ?_) (fun c_903 => absurd c_903 (by decide))
    refine lv_iload hx hb dL_law_908 (lv_at hl 1 rfl) ?_
    refine lv_if_ne (tgt := 925) hx hb dL_law_910 (by decide) (fun c_910 => ?_) (fun c_910 => absurd c_910 (by decide))
    refine lv_goto (tgt := 3236) hx hb dL_law_925 (by decide) ?_
    exact law_end C1 (lv_sub hl [2, 7] rfl) hS (Nat.le_of_ble_eq_true rfl) (Nat.le_of_ble_eq_true rfl)
