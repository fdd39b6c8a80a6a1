theorem LC_borrowable {σ : Hp} {D i : Int} {s : Lsv} {b bs : Nat} {Q : Res → Hp → Prop} (hi : 0 ≤ i ∧ i + 5 < (σ.sl : Int)) (hs : σ.sl ≤ 3072) (hM : MIv D σ s) (hS : Lstp D σ s m_X10_borrowable m_X11_borrowable [xIOB] [vI (σ.I 96 0 (i + 1)), vI (σ.I 96 0 (i + 2))] okI) (kk : Kq D σ s i b bs Q) : V m_L_law 17 (b + 61) (bs + 419) 2533 [some (vR (some (96, 0))), some (vR (some (10, 0))), some (vR (some (11, 0))), some (vR (some (70, 0))), some (vR (some (71, 0))), some (vI i), none, none, none] [] σ Q := by
  obtain ⟨κ, w, D', s', hk, ⟨v, rfl⟩, hp, hc, hm⟩ := hS
  refine V_aldn1 a_L_law_2533 ?_
  refine V_aldn0 a_L_law_2534 ?_
  refine V_ild5 a_L_law_2535 ?_
  refine V_iconst a_L_law_2537 ?_
  refine V_iadd a_L_law_2538 ?_
  refine V_sld a_L_law_2539 (by omega) (by omega) ?_
  refine V_aldn0 a_L_law_2540 ?_
  refine V_ild5 a_L_law_2541 ?_
  refine V_iconst a_L_law_2543 ?_
  refine V_iadd a_L_law_2544 ?_
  refine V_sld a_L_law_2545 (by omega) (by omega) ?_
  refine V_aldn3 a_L_law_2546 ?_
  refine V_w4PR a_L_law_2547 c_L_300 (W_borrowable hc) (fun τ hτ => ?_)
  obtain ⟨n1, c1, j1⟩ := hτ
  have e1 : τ.I 96 0 = σ.I 96 0 := n1.I n96_o7
  have e2 : τ.sl = σ.sl := n1.1
  have m1 := hm τ n1 c1 (hM.out n1 c1.wf no_o7)
  refine V_ist6 a_L_law_2550 ?_
  refine V_aldn2 a_L_law_2552 ?_
  refine V_aldn0 a_L_law_2553 ?_
  refine V_ild5 a_L_law_2554 ?_
  refine V_iconst a_L_law_2556 ?_
  refine V_iadd a_L_law_2557 ?_
  refine V_sldE a_L_law_2558 (by omega) (by omega) (congrFun e1 _) ?_
  refine V_aldn0 a_L_law_2559 ?_
  refine V_ild5 a_L_law_2560 ?_
  refine V_iconst a_L_law_2562 ?_
  refine V_iadd a_L_law_2563 ?_
  refine V_sldE a_L_law_2564 (by omega) (by omega) (congrFun e1 _) ?_
  refine V_v2PR a_L_law_2565 c_L_302 m1 (fun ρ hρ => ?_)
  obtain ⟨n2, ⟨A', q9, m2⟩, e6⟩ := hρ
  have c2 : CIv D' ρ (A', s'.2) := (c1.out n2 m2.1.2.1 no_ml).eq9 q9
  have e3 : ρ.I 96 0 = σ.I 96 0 := (n2.I n96_ml).trans e1
  have e4 : ρ.sl = σ.sl := n2.1.trans e2
  have j2 : κ = 0 → ρ.J 70 0 0 = v.bmod (2 ^ 32) := fun z => by rw [n2.J n70_ml]; exact j1 z
  refine V_ist7 a_L_law_2568 ?_
  refine V_aldn2 a_L_law_2570 ?_
  refine V_v0R a_L_law_2571 c_L_183 (R_thrE e6) ?_
  refine V_ild6 a_L_law_2574 ?_
  refine V_icmp_eq_t a_L_law_2576 (by omega) (by omega) ?_
  refine V_ild6 a_L_law_2581 ?_
  refine V_if_ne a_L_law_2583 (by omega) (fun hc2583 => ?_) (fun hc2583 => ?_)
  · refine V_goto a_L_law_2598 ?_
    exact V_fg3 (kk ρ D' (A', s'.2) c2 m2 hp e4 e3)
  · refine V_aldn3 a_L_law_2586 ?_
    refine V_iconst a_L_law_2587 ?_
    refine V_laldE a_L_law_2588 rfl (by omega) (j2 (by omega)) ?_
    refine V_ild7 a_L_law_2589 ?_
    refine V_i2lM a_L_law_2591 ?_
    refine V_lcmpG a_L_law_2592 ?_
    rw [c64_self]
    refine V_if_eq_t a_L_law_2593 (by omega) (by omega) ?_
    refine V_goto a_L_law_2598 ?_
    exact V_fg3 (kk ρ D' (A', s'.2) c2 m2 hp e4 e3)
theorem LC_wouldReplace {σ : Hp} {D i : Int} {s : Lsv} {b bs : Nat} {Q : Res → Hp → Prop} (hi : 0 ≤ i ∧ i + 5 < (σ.sl : Int)) (hs : σ.sl ≤ 3072) (hM : MIv D σ s) (hS : Lstp D σ s m_X10_wouldReplace m_X11_wouldReplace [xIOB, xIAE, xISE] [vI (σ.I 96 0 (i + 1)), vI (σ.I 96 0 (i + 2)), vI (σ.I 96 0 (i + 3))] okI) (kk : Kq D σ s i b bs Q) : V m_L_law 17 (b + 61) (bs + 419) 2601 [some (vR (some (96, 0))), some (vR (some (10, 0))), some (vR (some (11, 0))), some (vR (some (70, 0))), some (vR (some (71, 0))), some (vI i), none, none, none] [] σ Q := by
  obtain ⟨κ, w, D', s', hk, ⟨v, rfl⟩, hp, hc, hm⟩ := hS
  refine V_aldn1 a_L_law_2601 ?_
  refine V_aldn0 a_L_law_2602 ?_
  refine V_ild5 a_L_law_2603 ?_
  refine V_iconst a_L_law_2605 ?_
  refine V_iadd a_L_law_2606 ?_
  refine V_sld a_L_law_2607 (by omega) (by omega) ?_
  refine V_aldn0 a_L_law_2608 ?_
  refine V_ild5 a_L_law_2609 ?_
  refine V_iconst a_L_law_2611 ?_
  refine V_iadd a_L_law_2612 ?_
  refine V_sld a_L_law_2613 (by omega) (by omega) ?_
  refine V_aldn0 a_L_law_2614 ?_
  refine V_ild5 a_L_law_2615 ?_
  refine V_iconst a_L_law_2617 ?_
  refine V_iadd a_L_law_2618 ?_
  refine V_sld a_L_law_2619 (by omega) (by omega) ?_
  refine V_aldn3 a_L_law_2620 ?_
  refine V_w5PR a_L_law_2621 c_L_303 (W_wouldReplace hc) (fun τ hτ => ?_)
  obtain ⟨n1, c1, j1⟩ := hτ
  have e1 : τ.I 96 0 = σ.I 96 0 := n1.I n96_o7
  have e2 : τ.sl = σ.sl := n1.1
  have m1 := hm τ n1 c1 (hM.out n1 c1.wf no_o7)
  refine V_ist6 a_L_law_2624 ?_
  refine V_aldn2 a_L_law_2626 ?_
  refine V_aldn0 a_L_law_2627 ?_
  refine V_ild5 a_L_law_2628 ?_
  refine V_iconst a_L_law_2630 ?_
  refine V_iadd a_L_law_2631 ?_
  refine V_sldE a_L_law_2632 (by omega) (by omega) (congrFun e1 _) ?_
  refine V_aldn0 a_L_law_2633 ?_
  refine V_ild5 a_L_law_2634 ?_
  refine V_iconst a_L_law_2636 ?_
  refine V_iadd a_L_law_2637 ?_
  refine V_sldE a_L_law_2638 (by omega) (by omega) (congrFun e1 _) ?_
  refine V_aldn0 a_L_law_2639 ?_
  refine V_ild5 a_L_law_2640 ?_
  refine V_iconst a_L_law_2642 ?_
  refine V_iadd a_L_law_2643 ?_
  refine V_sldE a_L_law_2644 (by omega) (by omega) (congrFun e1 _) ?_
  refine V_v3PR a_L_law_2645 c_L_305 m1 (fun ρ hρ => ?_)
  obtain ⟨n2, ⟨A', q9, m2⟩, e6⟩ := hρ
  have c2 : CIv D' ρ (A', s'.2) := (c1.out n2 m2.1.2.1 no_ml).eq9 q9
  have e3 : ρ.I 96 0 = σ.I 96 0 := (n2.I n96_ml).trans e1
  have e4 : ρ.sl = σ.sl := n2.1.trans e2
  have j2 : κ = 0 → ρ.J 70 0 0 = v.bmod (2 ^ 32) := fun z => by rw [n2.J n70_ml]; exact j1 z
  refine V_ist7 a_L_law_2648 ?_
  refine V_aldn2 a_L_law_2650 ?_
  refine V_v0R a_L_law_2651 c_L_183 (R_thrE e6) ?_
  refine V_ild6 a_L_law_2654 ?_
  refine V_icmp_eq_t a_L_law_2656 (by omega) (by omega) ?_
  refine V_ild6 a_L_law_2661 ?_
  refine V_if_ne a_L_law_2663 (by omega) (fun hc2663 => ?_) (fun hc2663 => ?_)
  · refine V_goto a_L_law_2678 ?_
    exact V_fg3 (kk ρ D' (A', s'.2) c2 m2 hp e4 e3)
  · refine V_aldn3 a_L_law_2666 ?_
    refine V_iconst a_L_law_2667 ?_
    refine V_laldE a_L_law_2668 rfl (by omega) (j2 (by omega)) ?_
    refine V_ild7 a_L_law_2669 ?_
    refine V_i2lM a_L_law_2671 ?_
    refine V_lcmpG a_L_law_2672 ?_
    rw [c64_self]
    refine V_if_eq_t a_L_law_2673 (by omega) (by omega) ?_
    refine V_goto a_L_law_2678 ?_
    exact V_fg3 (kk ρ D' (A', s'.2) c2 m2 hp e4 e3)
theorem LC_fewestLoans {σ : Hp} {D i : Int} {s : Lsv} {b bs : Nat} {Q : Res → Hp → Prop} (hi : 0 ≤ i ∧ i + 5 < (σ.sl : Int)) (hs : σ.sl ≤ 3072) (hM : MIv D σ s) (hS : Lstp D σ s m_X10_fewestLoans m_X11_fewestLoans [xIOB, xIAE, xNSE] [vI (σ.I 96 0 (i + 1)), vI (σ.I 96 0 (i + 2)), vI (σ.I 96 0 (i + 3))] okI) (kk : Kq D σ s i b bs Q) : V m_L_law 17 (b + 61) (bs + 419) 2681 [some (vR (some (96, 0))), some (vR (some (10, 0))), some (vR (some (11, 0))), some (vR (some (70, 0))), some (vR (some (71, 0))), some (vI i), none, none, none] [] σ Q := by
  obtain ⟨κ, w, D', s', hk, ⟨v, rfl⟩, hp, hc, hm⟩ := hS
  refine V_aldn1 a_L_law_2681 ?_
  refine V_aldn0 a_L_law_2682 ?_
  refine V_ild5 a_L_law_2683 ?_
  refine V_iconst a_L_law_2685 ?_
  refine V_iadd a_L_law_2686 ?_
  refine V_sld a_L_law_2687 (by omega) (by omega) ?_
  refine V_aldn0 a_L_law_2688 ?_
  refine V_ild5 a_L_law_2689 ?_
  refine V_iconst a_L_law_2691 ?_
  refine V_iadd a_L_law_2692 ?_
  refine V_sld a_L_law_2693 (by omega) (by omega) ?_
  refine V_aldn0 a_L_law_2694 ?_
  refine V_ild5 a_L_law_2695 ?_
  refine V_iconst a_L_law_2697 ?_
  refine V_iadd a_L_law_2698 ?_
  refine V_sld a_L_law_2699 (by omega) (by omega) ?_
  refine V_aldn3 a_L_law_2700 ?_
  refine V_w5PR a_L_law_2701 c_L_306 (W_fewestLoans hc) (fun τ hτ => ?_)
  obtain ⟨n1, c1, j1⟩ := hτ
  have e1 : τ.I 96 0 = σ.I 96 0 := n1.I n96_o7
  have e2 : τ.sl = σ.sl := n1.1
  have m1 := hm τ n1 c1 (hM.out n1 c1.wf no_o7)
  refine V_ist6 a_L_law_2704 ?_
  refine V_aldn2 a_L_law_2706 ?_
  refine V_aldn0 a_L_law_2707 ?_
  refine V_ild5 a_L_law_2708 ?_
  refine V_iconst a_L_law_2710 ?_
  refine V_iadd a_L_law_2711 ?_
  refine V_sldE a_L_law_2712 (by omega) (by omega) (congrFun e1 _) ?_
  refine V_aldn0 a_L_law_2713 ?_
  refine V_ild5 a_L_law_2714 ?_
  refine V_iconst a_L_law_2716 ?_
  refine V_iadd a_L_law_2717 ?_
  refine V_sldE a_L_law_2718 (by omega) (by omega) (congrFun e1 _) ?_
  refine V_aldn0 a_L_law_2719 ?_
  refine V_ild5 a_L_law_2720 ?_
  refine V_iconst a_L_law_2722 ?_
  refine V_iadd a_L_law_2723 ?_
  refine V_sldE a_L_law_2724 (by omega) (by omega) (congrFun e1 _) ?_
  refine V_v3PR a_L_law_2725 c_L_308 m1 (fun ρ hρ => ?_)
  obtain ⟨n2, ⟨A', q9, m2⟩, e6⟩ := hρ
  have c2 : CIv D' ρ (A', s'.2) := (c1.out n2 m2.1.2.1 no_ml).eq9 q9
  have e3 : ρ.I 96 0 = σ.I 96 0 := (n2.I n96_ml).trans e1
  have e4 : ρ.sl = σ.sl := n2.1.trans e2
  have j2 : κ = 0 → ρ.J 70 0 0 = v.bmod (2 ^ 32) := fun z => by rw [n2.J n70_ml]; exact j1 z
  refine V_ist7 a_L_law_2728 ?_
  refine V_aldn2 a_L_law_2730 ?_
  refine V_v0R a_L_law_2731 c_L_183 (R_thrE e6) ?_
  refine V_ild6 a_L_law_2734 ?_
  refine V_icmp_eq_t a_L_law_2736 (by omega) (by omega) ?_
  refine V_ild6 a_L_law_2741 ?_
  refine V_if_ne a_L_law_2743 (by omega) (fun hc2743 => ?_) (fun hc2743 => ?_)
  · refine V_goto a_L_law_2758 ?_
    exact V_fg3 (kk ρ D' (A', s'.2) c2 m2 hp e4 e3)
  · refine V_aldn3 a_L_law_2746 ?_
    refine V_iconst a_L_law_2747 ?_
    refine V_laldE a_L_law_2748 rfl (by omega) (j2 (by omega)) ?_
    refine V_ild7 a_L_law_2749 ?_
    refine V_i2lM a_L_law_2751 ?_
    refine V_lcmpG a_L_law_2752 ?_
    rw [c64_self]
    refine V_if_eq_t a_L_law_2753 (by omega) (by omega) ?_
    refine V_goto a_L_law_2758 ?_
    exact V_fg3 (kk ρ D' (A', s'.2) c2 m2 hp e4 e3)
theorem LC_tightestSum {σ : Hp} {D i : Int} {s : Lsv} {b bs : Nat} {Q : Res → Hp → Prop} (hi : 0 ≤ i ∧ i + 5 < (σ.sl : Int)) (hs : σ.sl ≤ 3072) (hM : MIv D σ s) (hS : Lstp D σ s m_X10_tightestSum m_X11_tightestSum [xIOB, xIAE, xNSE] [vI (σ.I 96 0 (i + 1)), vI (σ.I 96 0 (i + 2)), vI (σ.I 96 0 (i + 3))] okI) (kk : Kq D σ s i b bs Q) : V m_L_law 17 (b + 61) (bs + 419) 2761 [some (vR (some (96, 0))), some (vR (some (10, 0))), some (vR (some (11, 0))), some (vR (some (70, 0))), some (vR (some (71, 0))), some (vI i), none, none, none] [] σ Q := by
  obtain ⟨κ, w, D', s', hk, ⟨v, rfl⟩, hp, hc, hm⟩ := hS
  refine V_aldn1 a_L_law_2761 ?_
  refine V_aldn0 a_L_law_2762 ?_
  refine V_ild5 a_L_law_2763 ?_
  refine V_iconst a_L_law_2765 ?_
  refine V_iadd a_L_law_2766 ?_
  refine V_sld a_L_law_2767 (by omega) (by omega) ?_
  refine V_aldn0 a_L_law_2768 ?_
  refine V_ild5 a_L_law_2769 ?_
  refine V_iconst a_L_law_2771 ?_
  refine V_iadd a_L_law_2772 ?_
  refine V_sld a_L_law_2773 (by omega) (by omega) ?_
  refine V_aldn0 a_L_law_2774 ?_
  refine V_ild5 a_L_law_2775 ?_
  refine V_iconst a_L_law_2777 ?_
  refine V_iadd a_L_law_2778 ?_
  refine V_sld a_L_law_2779 (by omega) (by omega) ?_
  refine V_aldn3 a_L_law_2780 ?_
  refine V_w5PR a_L_law_2781 c_L_309 (W_tightestSum hc) (fun τ hτ => ?_)
  obtain ⟨n1, c1, j1⟩ := hτ
  have e1 : τ.I 96 0 = σ.I 96 0 := n1.I n96_o7
  have e2 : τ.sl = σ.sl := n1.1
  have m1 := hm τ n1 c1 (hM.out n1 c1.wf no_o7)
  refine V_ist6 a_L_law_2784 ?_
  refine V_aldn2 a_L_law_2786 ?_
  refine V_aldn0 a_L_law_2787 ?_
  refine V_ild5 a_L_law_2788 ?_
  refine V_iconst a_L_law_2790 ?_
  refine V_iadd a_L_law_2791 ?_
  refine V_sldE a_L_law_2792 (by omega) (by omega) (congrFun e1 _) ?_
  refine V_aldn0 a_L_law_2793 ?_
  refine V_ild5 a_L_law_2794 ?_
  refine V_iconst a_L_law_2796 ?_
  refine V_iadd a_L_law_2797 ?_
  refine V_sldE a_L_law_2798 (by omega) (by omega) (congrFun e1 _) ?_
  refine V_aldn0 a_L_law_2799 ?_
  refine V_ild5 a_L_law_2800 ?_
  refine V_iconst a_L_law_2802 ?_
  refine V_iadd a_L_law_2803 ?_
  refine V_sldE a_L_law_2804 (by omega) (by omega) (congrFun e1 _) ?_
  refine V_v3PR a_L_law_2805 c_L_311 m1 (fun ρ hρ => ?_)
  obtain ⟨n2, ⟨A', q9, m2⟩, e6⟩ := hρ
  have c2 : CIv D' ρ (A', s'.2) := (c1.out n2 m2.1.2.1 no_ml).eq9 q9
  have e3 : ρ.I 96 0 = σ.I 96 0 := (n2.I n96_ml).trans e1
  have e4 : ρ.sl = σ.sl := n2.1.trans e2
  have j2 : κ = 0 → ρ.J 70 0 0 = v.bmod (2 ^ 32) := fun z => by rw [n2.J n70_ml]; exact j1 z
  refine V_ist7 a_L_law_2808 ?_
  refine V_aldn2 a_L_law_2810 ?_
  refine V_v0R a_L_law_2811 c_L_183 (R_thrE e6) ?_
  refine V_ild6 a_L_law_2814 ?_
  refine V_icmp_eq_t a_L_law_2816 (by omega) (by omega) ?_
  refine V_ild6 a_L_law_2821 ?_
  refine V_if_ne a_L_law_2823 (by omega) (fun hc2823 => ?_) (fun hc2823 => ?_)
  · refine V_goto a_L_law_2838 ?_
    exact V_fg3 (kk ρ D' (A', s'.2) c2 m2 hp e4 e3)
  · refine V_aldn3 a_L_law_2826 ?_
    refine V_iconst a_L_law_2827 ?_
    refine V_laldE a_L_law_2828 rfl (by omega) (j2 (by omega)) ?_
    refine V_ild7 a_L_law_2829 ?_
    refine V_i2lM a_L_law_2831 ?_
    refine V_lcmpG a_L_law_2832 ?_
    rw [c64_self]
    refine V_if_eq_t a_L_law_2833 (by omega) (by omega) ?_
    refine V_goto a_L_law_2838 ?_
    exact V_fg3 (kk ρ D' (A', s'.2) c2 m2 hp e4 e3)
theorem LC_tightestLoans {σ : Hp} {D i : Int} {s : Lsv} {b bs : Nat} {Q : Res → Hp → Prop} (hi : 0 ≤ i ∧ i + 5 < (σ.sl : Int)) (hs : σ.sl ≤ 3072) (hM : MIv D σ s) (hS : Lstp D σ s m_X10_tightestLoans m_X11_tightestLoans [xIOB, xIAE, xNSE] [vI (σ.I 96 0 (i + 1)), vI (σ.I 96 0 (i + 2)), vI (σ.I 96 0 (i + 3))] okI) (kk : Kq D σ s i b bs Q) : V m_L_law 17 (b + 61) (bs + 419) 2841 [some (vR (some (96, 0))), some (vR (some (10, 0))), some (vR (some (11, 0))), some (vR (some (70, 0))), some (vR (some (71, 0))), some (vI i), none, none, none] [] σ Q := by
  obtain ⟨κ, w, D', s', hk, ⟨v, rfl⟩, hp, hc, hm⟩ := hS
  refine V_aldn1 a_L_law_2841 ?_
  refine V_aldn0 a_L_law_2842 ?_
  refine V_ild5 a_L_law_2843 ?_
  refine V_iconst a_L_law_2845 ?_
  refine V_iadd a_L_law_2846 ?_
  refine V_sld a_L_law_2847 (by omega) (by omega) ?_
  refine V_aldn0 a_L_law_2848 ?_
  refine V_ild5 a_L_law_2849 ?_
  refine V_iconst a_L_law_2851 ?_
  refine V_iadd a_L_law_2852 ?_
  refine V_sld a_L_law_2853 (by omega) (by omega) ?_
  refine V_aldn0 a_L_law_2854 ?_
  refine V_ild5 a_L_law_2855 ?_
  refine V_iconst a_L_law_2857 ?_
  refine V_iadd a_L_law_2858 ?_
  refine V_sld a_L_law_2859 (by omega) (by omega) ?_
  refine V_aldn3 a_L_law_2860 ?_
  refine V_w5PR a_L_law_2861 c_L_312 (W_tightestLoans hc) (fun τ hτ => ?_)
  obtain ⟨n1, c1, j1⟩ := hτ
  have e1 : τ.I 96 0 = σ.I 96 0 := n1.I n96_o7
  have e2 : τ.sl = σ.sl := n1.1
  have m1 := hm τ n1 c1 (hM.out n1 c1.wf no_o7)
  refine V_ist6 a_L_law_2864 ?_
  refine V_aldn2 a_L_law_2866 ?_
  refine V_aldn0 a_L_law_2867 ?_
  refine V_ild5 a_L_law_2868 ?_
  refine V_iconst a_L_law_2870 ?_
  refine V_iadd a_L_law_2871 ?_
  refine V_sldE a_L_law_2872 (by omega) (by omega) (congrFun e1 _) ?_
  refine V_aldn0 a_L_law_2873 ?_
  refine V_ild5 a_L_law_2874 ?_
  refine V_iconst a_L_law_2876 ?_
  refine V_iadd a_L_law_2877 ?_
  refine V_sldE a_L_law_2878 (by omega) (by omega) (congrFun e1 _) ?_
  refine V_aldn0 a_L_law_2879 ?_
  refine V_ild5 a_L_law_2880 ?_
  refine V_iconst a_L_law_2882 ?_
  refine V_iadd a_L_law_2883 ?_
  refine V_sldE a_L_law_2884 (by omega) (by omega) (congrFun e1 _) ?_
  refine V_v3PR a_L_law_2885 c_L_314 m1 (fun ρ hρ => ?_)
  obtain ⟨n2, ⟨A', q9, m2⟩, e6⟩ := hρ
  have c2 : CIv D' ρ (A', s'.2) := (c1.out n2 m2.1.2.1 no_ml).eq9 q9
  have e3 : ρ.I 96 0 = σ.I 96 0 := (n2.I n96_ml).trans e1
  have e4 : ρ.sl = σ.sl := n2.1.trans e2
  have j2 : κ = 0 → ρ.J 70 0 0 = v.bmod (2 ^ 32) := fun z => by rw [n2.J n70_ml]; exact j1 z
  refine V_ist7 a_L_law_2888 ?_
  refine V_aldn2 a_L_law_2890 ?_
  refine V_v0R a_L_law_2891 c_L_183 (R_thrE e6) ?_
  refine V_ild6 a_L_law_2894 ?_
  refine V_icmp_eq_t a_L_law_2896 (by omega) (by omega) ?_
  refine V_ild6 a_L_law_2901 ?_
  refine V_if_ne a_L_law_2903 (by omega) (fun hc2903 => ?_) (fun hc2903 => ?_)
  · refine V_goto a_L_law_2918 ?_
    exact V_fg3 (kk ρ D' (A', s'.2) c2 m2 hp e4 e3)
  · refine V_aldn3 a_L_law_2906 ?_
    refine V_iconst a_L_law_2907 ?_
    refine V_laldE a_L_law_2908 rfl (by omega) (j2 (by omega)) ?_
    refine V_ild7 a_L_law_2909 ?_
    refine V_i2lM a_L_law_2911 ?_
    refine V_lcmpG a_L_law_2912 ?_
    rw [c64_self]
    refine V_if_eq_t a_L_law_2913 (by omega) (by omega) ?_
    refine V_goto a_L_law_2918 ?_
    exact V_fg3 (kk ρ D' (A', s'.2) c2 m2 hp e4 e3)
theorem LC_accountAfter {σ : Hp} {D i : Int} {s : Lsv} {b bs : Nat} {Q : Res → Hp → Prop} (hi : 0 ≤ i ∧ i + 5 < (σ.sl : Int)) (hs : σ.sl ≤ 3072) (hM : MIv D σ s) (hS : Lstp D σ s m_X10_accountAfter m_X11_accountAfter [xIAE] [vI (σ.I 96 0 (i + 1)), vI (σ.I 96 0 (i + 2)), vI (σ.I 96 0 (i + 3))] okJ) (kk : Kq D σ s i b bs Q) : V m_L_law 17 (b + 61) (bs + 419) 2921 [some (vR (some (96, 0))), some (vR (some (10, 0))), some (vR (some (11, 0))), some (vR (some (70, 0))), some (vR (some (71, 0))), some (vI i), none, none, none] [] σ Q := by
  obtain ⟨κ, w, D', s', hk, ⟨v, rfl⟩, hp, hc, hm⟩ := hS
  refine V_aldn1 a_L_law_2921 ?_
  refine V_aldn0 a_L_law_2922 ?_
  refine V_ild5 a_L_law_2923 ?_
  refine V_iconst a_L_law_2925 ?_
  refine V_iadd a_L_law_2926 ?_
  refine V_sld a_L_law_2927 (by omega) (by omega) ?_
  refine V_aldn0 a_L_law_2928 ?_
  refine V_ild5 a_L_law_2929 ?_
  refine V_iconst a_L_law_2931 ?_
  refine V_iadd a_L_law_2932 ?_
  refine V_sld a_L_law_2933 (by omega) (by omega) ?_
  refine V_aldn0 a_L_law_2934 ?_
  refine V_ild5 a_L_law_2935 ?_
  refine V_iconst a_L_law_2937 ?_
  refine V_iadd a_L_law_2938 ?_
  refine V_sld a_L_law_2939 (by omega) (by omega) ?_
  refine V_aldn3 a_L_law_2940 ?_
  refine V_w5PR a_L_law_2941 c_L_315 (W_accountAfter hc) (fun τ hτ => ?_)
  obtain ⟨n1, c1, j1⟩ := hτ
  have e1 : τ.I 96 0 = σ.I 96 0 := n1.I n96_o7
  have e2 : τ.sl = σ.sl := n1.1
  have m1 := hm τ n1 c1 (hM.out n1 c1.wf no_o7)
  refine V_ist6 a_L_law_2944 ?_
  refine V_aldn2 a_L_law_2946 ?_
  refine V_aldn0 a_L_law_2947 ?_
  refine V_ild5 a_L_law_2948 ?_
  refine V_iconst a_L_law_2950 ?_
  refine V_iadd a_L_law_2951 ?_
  refine V_sldE a_L_law_2952 (by omega) (by omega) (congrFun e1 _) ?_
  refine V_aldn0 a_L_law_2953 ?_
  refine V_ild5 a_L_law_2954 ?_
  refine V_iconst a_L_law_2956 ?_
  refine V_iadd a_L_law_2957 ?_
  refine V_sldE a_L_law_2958 (by omega) (by omega) (congrFun e1 _) ?_
  refine V_aldn0 a_L_law_2959 ?_
  refine V_ild5 a_L_law_2960 ?_
  refine V_iconst a_L_law_2962 ?_
  refine V_iadd a_L_law_2963 ?_
  refine V_sldE a_L_law_2964 (by omega) (by omega) (congrFun e1 _) ?_
  refine V_v3PR a_L_law_2965 c_L_317 m1 (fun ρ hρ => ?_)
  obtain ⟨n2, ⟨A', q9, m2⟩, e6⟩ := hρ
  have c2 : CIv D' ρ (A', s'.2) := (c1.out n2 m2.1.2.1 no_ml).eq9 q9
  have e3 : ρ.I 96 0 = σ.I 96 0 := (n2.I n96_ml).trans e1
  have e4 : ρ.sl = σ.sl := n2.1.trans e2
  have j2 : κ = 0 → ρ.J 70 0 0 = v := fun z => by rw [n2.J n70_ml]; exact j1 z
  refine V_lst7 a_L_law_2968 ?_
  refine V_aldn2 a_L_law_2970 ?_
  refine V_v0R a_L_law_2971 c_L_183 (R_thrE e6) ?_
  refine V_ild6 a_L_law_2974 ?_
  refine V_icmp_eq_t a_L_law_2976 (by omega) (by omega) ?_
  refine V_ild6 a_L_law_2981 ?_
  refine V_if_ne a_L_law_2983 (by omega) (fun hc2983 => ?_) (fun hc2983 => ?_)
  · refine V_goto a_L_law_2997 ?_
    exact V_fg3 (kk ρ D' (A', s'.2) c2 m2 hp e4 e3)
  · refine V_aldn3 a_L_law_2986 ?_
    refine V_iconst a_L_law_2987 ?_
    refine V_laldE a_L_law_2988 rfl (by omega) (j2 (by omega)) ?_
    refine V_lld7 a_L_law_2989 ?_
    refine V_lcmpG a_L_law_2991 ?_
    rw [c64_self]
    refine V_if_eq_t a_L_law_2992 (by omega) (by omega) ?_
    refine V_goto a_L_law_2997 ?_
    exact V_fg3 (kk ρ D' (A', s'.2) c2 m2 hp e4 e3)
theorem LC_boughtInAfter {σ : Hp} {D i : Int} {s : Lsv} {b bs : Nat} {Q : Res → Hp → Prop} (hi : 0 ≤ i ∧ i + 5 < (σ.sl : Int)) (hs : σ.sl ≤ 3072) (hM : MIv D σ s) (hS : Lstp D σ s m_X10_boughtInAfter m_X11_boughtInAfter [xIAE] [vI (σ.I 96 0 (i + 1))] okI) (kk : Kq D σ s i b bs Q) : V m_L_law 17 (b + 61) (bs + 419) 3000 [some (vR (some (96, 0))), some (vR (some (10, 0))), some (vR (some (11, 0))), some (vR (some (70, 0))), some (vR (some (71, 0))), some (vI i), none, none, none] [] σ Q := by
  obtain ⟨κ, w, D', s', hk, ⟨v, rfl⟩, hp, hc, hm⟩ := hS
  refine V_aldn1 a_L_law_3000 ?_
  refine V_aldn0 a_L_law_3001 ?_
  refine V_ild5 a_L_law_3002 ?_
  refine V_iconst a_L_law_3004 ?_
  refine V_iadd a_L_law_3005 ?_
  refine V_sld a_L_law_3006 (by omega) (by omega) ?_
  refine V_aldn3 a_L_law_3007 ?_
  refine V_w3PR a_L_law_3008 c_L_318 (W_boughtInAfter hc) (fun τ hτ => ?_)
  obtain ⟨n1, c1, j1⟩ := hτ
  have e1 : τ.I 96 0 = σ.I 96 0 := n1.I n96_o7
  have e2 : τ.sl = σ.sl := n1.1
  have m1 := hm τ n1 c1 (hM.out n1 c1.wf no_o7)
  refine V_ist6 a_L_law_3011 ?_
  refine V_aldn2 a_L_law_3013 ?_
  refine V_aldn0 a_L_law_3014 ?_
  refine V_ild5 a_L_law_3015 ?_
  refine V_iconst a_L_law_3017 ?_
  refine V_iadd a_L_law_3018 ?_
  refine V_sldE a_L_law_3019 (by omega) (by omega) (congrFun e1 _) ?_
  refine V_v1PR a_L_law_3020 c_L_320 m1 (fun ρ hρ => ?_)
  obtain ⟨n2, ⟨A', q9, m2⟩, e6⟩ := hρ
  have c2 : CIv D' ρ (A', s'.2) := (c1.out n2 m2.1.2.1 no_ml).eq9 q9
  have e3 : ρ.I 96 0 = σ.I 96 0 := (n2.I n96_ml).trans e1
  have e4 : ρ.sl = σ.sl := n2.1.trans e2
  have j2 : κ = 0 → ρ.J 70 0 0 = v.bmod (2 ^ 32) := fun z => by rw [n2.J n70_ml]; exact j1 z
  refine V_ist7 a_L_law_3023 ?_
  refine V_aldn2 a_L_law_3025 ?_
  refine V_v0R a_L_law_3026 c_L_183 (R_thrE e6) ?_
  refine V_ild6 a_L_law_3029 ?_
  refine V_icmp_eq_t a_L_law_3031 (by omega) (by omega) ?_
  refine V_ild6 a_L_law_3036 ?_
  refine V_if_ne a_L_law_3038 (by omega) (fun hc3038 => ?_) (fun hc3038 => ?_)
  · refine V_goto a_L_law_3053 ?_
    exact V_fg3 (kk ρ D' (A', s'.2) c2 m2 hp e4 e3)
  · refine V_aldn3 a_L_law_3041 ?_
    refine V_iconst a_L_law_3042 ?_
    refine V_laldE a_L_law_3043 rfl (by omega) (j2 (by omega)) ?_
    refine V_ild7 a_L_law_3044 ?_
    refine V_i2lM a_L_law_3046 ?_
    refine V_lcmpG a_L_law_3047 ?_
    rw [c64_self]
    refine V_if_eq_t a_L_law_3048 (by omega) (by omega) ?_
    refine V_goto a_L_law_3053 ?_
    exact V_fg3 (kk ρ D' (A', s'.2) c2 m2 hp e4 e3)
theorem LC_firstBuyIn {σ : Hp} {D i : Int} {s : Lsv} {b bs : Nat} {Q : Res → Hp → Prop} (hi : 0 ≤ i ∧ i + 5 < (σ.sl : Int)) (hs : σ.sl ≤ 3072) (hM : MIv D σ s) (hS : Lstp D σ s m_X10_firstBuyIn m_X11_firstBuyIn [xNSE] [] okI) (kk : Kq D σ s i b bs Q) : V m_L_law 17 (b + 61) (bs + 419) 3056 [some (vR (some (96, 0))), some (vR (some (10, 0))), some (vR (some (11, 0))), some (vR (some (70, 0))), some (vR (some (71, 0))), some (vI i), none, none, none] [] σ Q := by
  obtain ⟨κ, w, D', s', hk, ⟨v, rfl⟩, hp, hc, hm⟩ := hS
  refine V_aldn1 a_L_law_3056 ?_
  refine V_aldn3 a_L_law_3057 ?_
  refine V_w2PR a_L_law_3058 c_L_321 (W_firstBuyIn hc) (fun τ hτ => ?_)
  obtain ⟨n1, c1, j1⟩ := hτ
  have e1 : τ.I 96 0 = σ.I 96 0 := n1.I n96_o7
  have e2 : τ.sl = σ.sl := n1.1
  have m1 := hm τ n1 c1 (hM.out n1 c1.wf no_o7)
  refine V_ist6 a_L_law_3061 ?_
  refine V_aldn2 a_L_law_3063 ?_
  refine V_v0PR a_L_law_3064 c_L_324 m1 (fun ρ hρ => ?_)
  obtain ⟨n2, ⟨A', q9, m2⟩, e6⟩ := hρ
  have c2 : CIv D' ρ (A', s'.2) := (c1.out n2 m2.1.2.1 no_ml).eq9 q9
  have e3 : ρ.I 96 0 = σ.I 96 0 := (n2.I n96_ml).trans e1
  have e4 : ρ.sl = σ.sl := n2.1.trans e2
  have j2 : κ = 0 → ρ.J 70 0 0 = v.bmod (2 ^ 32) := fun z => by rw [n2.J n70_ml]; exact j1 z
  refine V_ist7 a_L_law_3067 ?_
  refine V_aldn2 a_L_law_3069 ?_
  refine V_v0R a_L_law_3070 c_L_183 (R_thrE e6) ?_
  refine V_ild6 a_L_law_3073 ?_
  refine V_icmp_eq_t a_L_law_3075 (by omega) (by omega) ?_
  refine V_ild6 a_L_law_3080 ?_
  refine V_if_ne a_L_law_3082 (by omega) (fun hc3082 => ?_) (fun hc3082 => ?_)
  · refine V_goto a_L_law_3097 ?_
    exact V_fg3 (kk ρ D' (A', s'.2) c2 m2 hp e4 e3)
  · refine V_aldn3 a_L_law_3085 ?_
    refine V_iconst a_L_law_3086 ?_
    refine V_laldE a_L_law_3087 rfl (by omega) (j2 (by omega)) ?_
    refine V_ild7 a_L_law_3088 ?_
    refine V_i2lM a_L_law_3090 ?_
    refine V_lcmpG a_L_law_3091 ?_
    rw [c64_self]
    refine V_if_eq_t a_L_law_3092 (by omega) (by omega) ?_
    refine V_goto a_L_law_3097 ?_
    exact V_fg3 (kk ρ D' (A', s'.2) c2 m2 hp e4 e3)
theorem LC_breakingPrice {σ : Hp} {D i : Int} {s : Lsv} {b bs : Nat} {Q : Res → Hp → Prop} (hi : 0 ≤ i ∧ i + 5 < (σ.sl : Int)) (hs : σ.sl ≤ 3072) (hM : MIv D σ s) (hS : Lstp D σ s m_X10_breakingPrice m_X11_breakingPrice [xIOB, xNSE] [vI (σ.I 96 0 (i + 1)), vI (σ.I 96 0 (i + 2))] okI) (kk : Kq D σ s i b bs Q) : V m_L_law 17 (b + 61) (bs + 419) 3100 [some (vR (some (96, 0))), some (vR (some (10, 0))), some (vR (some (11, 0))), some (vR (some (70, 0))), some (vR (some (71, 0))), some (vI i), none, none, none] [] σ Q := by
  obtain ⟨κ, w, D', s', hk, ⟨v, rfl⟩, hp, hc, hm⟩ := hS
  refine V_aldn1 a_L_law_3100 ?_
  refine V_aldn0 a_L_law_3101 ?_
  refine V_ild5 a_L_law_3102 ?_
  refine V_iconst a_L_law_3104 ?_
  refine V_iadd a_L_law_3105 ?_
  refine V_sld a_L_law_3106 (by omega) (by omega) ?_
  refine V_aldn0 a_L_law_3107 ?_
  refine V_ild5 a_L_law_3108 ?_
  refine V_iconst a_L_law_3110 ?_
  refine V_iadd a_L_law_3111 ?_
  refine V_sld a_L_law_3112 (by omega) (by omega) ?_
  refine V_aldn3 a_L_law_3113 ?_
  refine V_w4PR a_L_law_3114 c_L_325 (W_breakingPrice hc) (fun τ hτ => ?_)
  obtain ⟨n1, c1, j1⟩ := hτ
  have e1 : τ.I 96 0 = σ.I 96 0 := n1.I n96_o7
  have e2 : τ.sl = σ.sl := n1.1
  have m1 := hm τ n1 c1 (hM.out n1 c1.wf no_o7)
  refine V_ist6 a_L_law_3117 ?_
  refine V_aldn2 a_L_law_3119 ?_
  refine V_aldn0 a_L_law_3120 ?_
  refine V_ild5 a_L_law_3121 ?_
  refine V_iconst a_L_law_3123 ?_
  refine V_iadd a_L_law_3124 ?_
  refine V_sldE a_L_law_3125 (by omega) (by omega) (congrFun e1 _) ?_
  refine V_aldn0 a_L_law_3126 ?_
  refine V_ild5 a_L_law_3127 ?_
  refine V_iconst a_L_law_3129 ?_
  refine V_iadd a_L_law_3130 ?_
  refine V_sldE a_L_law_3131 (by omega) (by omega) (congrFun e1 _) ?_
  refine V_v2PR a_L_law_3132 c_L_327 m1 (fun ρ hρ => ?_)
  obtain ⟨n2, ⟨A', q9, m2⟩, e6⟩ := hρ
  have c2 : CIv D' ρ (A', s'.2) := (c1.out n2 m2.1.2.1 no_ml).eq9 q9
  have e3 : ρ.I 96 0 = σ.I 96 0 := (n2.I n96_ml).trans e1
  have e4 : ρ.sl = σ.sl := n2.1.trans e2
  have j2 : κ = 0 → ρ.J 70 0 0 = v.bmod (2 ^ 32) := fun z => by rw [n2.J n70_ml]; exact j1 z
  refine V_ist7 a_L_law_3135 ?_
  refine V_aldn2 a_L_law_3137 ?_
  refine V_v0R a_L_law_3138 c_L_183 (R_thrE e6) ?_
  refine V_ild6 a_L_law_3141 ?_
  refine V_icmp_eq_t a_L_law_3143 (by omega) (by omega) ?_
  refine V_ild6 a_L_law_3148 ?_
  refine V_if_ne a_L_law_3150 (by omega) (fun hc3150 => ?_) (fun hc3150 => ?_)
  · refine V_goto a_L_law_3165 ?_
    exact V_fg3 (kk ρ D' (A', s'.2) c2 m2 hp e4 e3)
  · refine V_aldn3 a_L_law_3153 ?_
    refine V_iconst a_L_law_3154 ?_
    refine V_laldE a_L_law_3155 rfl (by omega) (j2 (by omega)) ?_
    refine V_ild7 a_L_law_3156 ?_
    refine V_i2lM a_L_law_3158 ?_
    refine V_lcmpG a_L_law_3159 ?_
    rw [c64_self]
    refine V_if_eq_t a_L_law_3160 (by omega) (by omega) ?_
    refine V_goto a_L_law_3165 ?_
    exact V_fg3 (kk ρ D' (A', s'.2) c2 m2 hp e4 e3)
theorem LC_bestPolicy {σ : Hp} {D i : Int} {s : Lsv} {b bs : Nat} {Q : Res → Hp → Prop} (hi : 0 ≤ i ∧ i + 5 < (σ.sl : Int)) (hs : σ.sl ≤ 3072) (hM : MIv D σ s) (hS : Lstp D σ s m_X10_bestPolicy m_X11_bestPolicy [xIOB, xIAE, xISE] [vI (σ.I 96 0 (i + 1)), vI (σ.I 96 0 (i + 2))] okI) (kk : Kq D σ s i b bs Q) : V m_L_law 17 (b + 61) (bs + 419) 3168 [some (vR (some (96, 0))), some (vR (some (10, 0))), some (vR (some (11, 0))), some (vR (some (70, 0))), some (vR (some (71, 0))), some (vI i), none, none, none] [] σ Q := by
  obtain ⟨κ, w, D', s', hk, ⟨v, rfl⟩, hp, hc, hm⟩ := hS
  refine V_aldn1 a_L_law_3168 ?_
  refine V_aldn0 a_L_law_3169 ?_
  refine V_ild5 a_L_law_3170 ?_
  refine V_iconst a_L_law_3172 ?_
  refine V_iadd a_L_law_3173 ?_
  refine V_sld a_L_law_3174 (by omega) (by omega) ?_
  refine V_aldn0 a_L_law_3175 ?_
  refine V_ild5 a_L_law_3176 ?_
  refine V_iconst a_L_law_3178 ?_
  refine V_iadd a_L_law_3179 ?_
  refine V_sld a_L_law_3180 (by omega) (by omega) ?_
  refine V_aldn3 a_L_law_3181 ?_
  refine V_w4PR a_L_law_3182 c_L_328 (W_bestPolicy hc) (fun τ hτ => ?_)
  obtain ⟨n1, c1, j1⟩ := hτ
  have e1 : τ.I 96 0 = σ.I 96 0 := n1.I n96_o7
  have e2 : τ.sl = σ.sl := n1.1
  have m1 := hm τ n1 c1 (hM.out n1 c1.wf no_o7)
  refine V_ist6 a_L_law_3185 ?_
  refine V_aldn2 a_L_law_3187 ?_
  refine V_aldn0 a_L_law_3188 ?_
  refine V_ild5 a_L_law_3189 ?_
  refine V_iconst a_L_law_3191 ?_
  refine V_iadd a_L_law_3192 ?_
  refine V_sldE a_L_law_3193 (by omega) (by omega) (congrFun e1 _) ?_
  refine V_aldn0 a_L_law_3194 ?_
  refine V_ild5 a_L_law_3195 ?_
  refine V_iconst a_L_law_3197 ?_
  refine V_iadd a_L_law_3198 ?_
  refine V_sldE a_L_law_3199 (by omega) (by omega) (congrFun e1 _) ?_
  refine V_v2PR a_L_law_3200 c_L_330 m1 (fun ρ hρ => ?_)
  obtain ⟨n2, ⟨A', q9, m2⟩, e6⟩ := hρ
  have c2 : CIv D' ρ (A', s'.2) := (c1.out n2 m2.1.2.1 no_ml).eq9 q9
  have e3 : ρ.I 96 0 = σ.I 96 0 := (n2.I n96_ml).trans e1
  have e4 : ρ.sl = σ.sl := n2.1.trans e2
  have j2 : κ = 0 → ρ.J 70 0 0 = v.bmod (2 ^ 32) := fun z => by rw [n2.J n70_ml]; exact j1 z
  refine V_ist7 a_L_law_3203 ?_
  refine V_aldn2 a_L_law_3205 ?_
  refine V_v0R a_L_law_3206 c_L_183 (R_thrE e6) ?_
  refine V_ild6 a_L_law_3209 ?_
  refine V_icmp_eq_t a_L_law_3211 (by omega) (by omega) ?_
  refine V_ild6 a_L_law_3216 ?_
  refine V_if_ne a_L_law_3218 (by omega) (fun hc3218 => ?_) (fun hc3218 => ?_)
  · refine V_goto a_L_law_3233 ?_
    exact V_fg3 (kk ρ D' (A', s'.2) c2 m2 hp e4 e3)
  · refine V_aldn3 a_L_law_3221 ?_
    refine V_iconst a_L_law_3222 ?_
    refine V_laldE a_L_law_3223 rfl (by omega) (j2 (by omega)) ?_
    refine V_ild7 a_L_law_3224 ?_
    refine V_i2lM a_L_law_3226 ?_
    refine V_lcmpG a_L_law_3227 ?_
    rw [c64_self]
    refine V_if_eq_t a_L_law_3228 (by omega) (by omega) ?_
    refine V_goto a_L_law_3233 ?_
    exact V_fg3 (kk ρ D' (A', s'.2) c2 m2 hp e4 e3)
theorem LC_rankedLender {σ : Hp} {D i : Int} {s : Lsv} {b bs : Nat} {Q : Res → Hp → Prop} (hi : 0 ≤ i ∧ i + 5 < (σ.sl : Int)) (hs : σ.sl ≤ 3072) (hM : MIv D σ s) (hS : Lstp D σ s m_X10_rankedLender m_X11_rankedLender [xIOB] [vI (σ.I 96 0 (i + 1)), vI (σ.I 96 0 (i + 2))] okI) (kk : Kq D σ s i b bs Q) : V m_L_law 17 (b + 61) (bs + 419) 3236 [some (vR (some (96, 0))), some (vR (some (10, 0))), some (vR (some (11, 0))), some (vR (some (70, 0))), some (vR (some (71, 0))), some (vI i), none, none, none] [] σ Q := by
  obtain ⟨κ, w, D', s', hk, ⟨v, rfl⟩, hp, hc, hm⟩ := hS
  refine V_aldn1 a_L_law_3236 ?_
  refine V_aldn0 a_L_law_3237 ?_
  refine V_ild5 a_L_law_3238 ?_
  refine V_iconst a_L_law_3240 ?_
  refine V_iadd a_L_law_3241 ?_
  refine V_sld a_L_law_3242 (by omega) (by omega) ?_
  refine V_aldn0 a_L_law_3243 ?_
  refine V_ild5 a_L_law_3244 ?_
  refine V_iconst a_L_law_3246 ?_
  refine V_iadd a_L_law_3247 ?_
  refine V_sld a_L_law_3248 (by omega) (by omega) ?_
  refine V_aldn3 a_L_law_3249 ?_
  refine V_w4PR a_L_law_3250 c_L_331 (W_rankedLender hc) (fun τ hτ => ?_)
  obtain ⟨n1, c1, j1⟩ := hτ
  have e1 : τ.I 96 0 = σ.I 96 0 := n1.I n96_o7
  have e2 : τ.sl = σ.sl := n1.1
  have m1 := hm τ n1 c1 (hM.out n1 c1.wf no_o7)
  refine V_ist6 a_L_law_3253 ?_
  refine V_aldn2 a_L_law_3255 ?_
  refine V_aldn0 a_L_law_3256 ?_
  refine V_ild5 a_L_law_3257 ?_
  refine V_iconst a_L_law_3259 ?_
  refine V_iadd a_L_law_3260 ?_
  refine V_sldE a_L_law_3261 (by omega) (by omega) (congrFun e1 _) ?_
  refine V_aldn0 a_L_law_3262 ?_
  refine V_ild5 a_L_law_3263 ?_
  refine V_iconst a_L_law_3265 ?_
  refine V_iadd a_L_law_3266 ?_
  refine V_sldE a_L_law_3267 (by omega) (by omega) (congrFun e1 _) ?_
  refine V_v2PR a_L_law_3268 c_L_333 m1 (fun ρ hρ => ?_)
  obtain ⟨n2, ⟨A', q9, m2⟩, e6⟩ := hρ
  have c2 : CIv D' ρ (A', s'.2) := (c1.out n2 m2.1.2.1 no_ml).eq9 q9
  have e3 : ρ.I 96 0 = σ.I 96 0 := (n2.I n96_ml).trans e1
  have e4 : ρ.sl = σ.sl := n2.1.trans e2
  have j2 : κ = 0 → ρ.J 70 0 0 = v.bmod (2 ^ 32) := fun z => by rw [n2.J n70_ml]; exact j1 z
  refine V_ist7 a_L_law_3271 ?_
  refine V_aldn2 a_L_law_3273 ?_
  refine V_v0R a_L_law_3274 c_L_183 (R_thrE e6) ?_
  refine V_ild6 a_L_law_3277 ?_
  refine V_icmp_eq_t a_L_law_3279 (by omega) (by omega) ?_
  refine V_ild6 a_L_law_3284 ?_
  refine V_if_ne a_L_law_3286 (by omega) (fun hc3286 => ?_) (fun hc3286 => ?_)
  · refine V_goto a_L_law_3301 ?_
    exact V_fg3 (kk ρ D' (A', s'.2) c2 m2 hp e4 e3)
  · refine V_aldn3 a_L_law_3289 ?_
    refine V_iconst a_L_law_3290 ?_
    refine V_laldE a_L_law_3291 rfl (by omega) (j2 (by omega)) ?_
    refine V_ild7 a_L_law_3292 ?_
    refine V_i2lM a_L_law_3294 ?_
    refine V_lcmpG a_L_law_3295 ?_
    rw [c64_self]
    refine V_if_eq_t a_L_law_3296 (by omega) (by omega) ?_
    refine V_goto a_L_law_3301 ?_
    exact V_fg3 (kk ρ D' (A', s'.2) c2 m2 hp e4 e3)
theorem LC_richestLender {σ : Hp} {D i : Int} {s : Lsv} {b bs : Nat} {Q : Res → Hp → Prop} (hi : 0 ≤ i ∧ i + 5 < (σ.sl : Int)) (hs : σ.sl ≤ 3072) (hM : MIv D σ s) (hS : Lstp D σ s m_X10_richestLender m_X11_richestLender [xNSE] [] okI) (kk : Kq D σ s i b bs Q) : V m_L_law 17 (b + 61) (bs + 419) 3304 [some (vR (some (96, 0))), some (vR (some (10, 0))), some (vR (some (11, 0))), some (vR (some (70, 0))), some (vR (some (71, 0))), some (vI i), none, none, none] [] σ Q := by
  obtain ⟨κ, w, D', s', hk, ⟨v, rfl⟩, hp, hc, hm⟩ := hS
  refine V_aldn1 a_L_law_3304 ?_
  refine V_aldn3 a_L_law_3305 ?_
  refine V_w2PR a_L_law_3306 c_L_334 (W_richestLender hc) (fun τ hτ => ?_)
  obtain ⟨n1, c1, j1⟩ := hτ
  have e1 : τ.I 96 0 = σ.I 96 0 := n1.I n96_o7
  have e2 : τ.sl = σ.sl := n1.1
  have m1 := hm τ n1 c1 (hM.out n1 c1.wf no_o7)
  refine V_ist6 a_L_law_3309 ?_
  refine V_aldn2 a_L_law_3311 ?_
  refine V_v0PR a_L_law_3312 c_L_336 m1 (fun ρ hρ => ?_)
  obtain ⟨n2, ⟨A', q9, m2⟩, e6⟩ := hρ
  have c2 : CIv D' ρ (A', s'.2) := (c1.out n2 m2.1.2.1 no_ml).eq9 q9
  have e3 : ρ.I 96 0 = σ.I 96 0 := (n2.I n96_ml).trans e1
  have e4 : ρ.sl = σ.sl := n2.1.trans e2
  have j2 : κ = 0 → ρ.J 70 0 0 = v.bmod (2 ^ 32) := fun z => by rw [n2.J n70_ml]; exact j1 z
  refine V_ist7 a_L_law_3315 ?_
  refine V_aldn2 a_L_law_3317 ?_
  refine V_v0R a_L_law_3318 c_L_183 (R_thrE e6) ?_
  refine V_ild6 a_L_law_3321 ?_
  refine V_icmp_eq_t a_L_law_3323 (by omega) (by omega) ?_
  refine V_ild6 a_L_law_3328 ?_
  refine V_if_ne a_L_law_3330 (by omega) (fun hc3330 => ?_) (fun hc3330 => ?_)
  · refine V_goto a_L_law_3345 ?_
    exact V_fg3 (kk ρ D' (A', s'.2) c2 m2 hp e4 e3)
  · refine V_aldn3 a_L_law_3333 ?_
    refine V_iconst a_L_law_3334 ?_
    refine V_laldE a_L_law_3335 rfl (by omega) (j2 (by omega)) ?_
    refine V_ild7 a_L_law_3336 ?_
    refine V_i2lM a_L_law_3338 ?_
    refine V_lcmpG a_L_law_3339 ?_
    rw [c64_self]
    refine V_if_eq_t a_L_law_3340 (by omega) (by omega) ?_
    refine V_goto a_L_law_3345 ?_
    exact V_fg3 (kk ρ D' (A', s'.2) c2 m2 hp e4 e3)
theorem LC_lastServed {σ : Hp} {D i : Int} {s : Lsv} {b bs : Nat} {Q : Res → Hp → Prop} (hi : 0 ≤ i ∧ i + 5 < (σ.sl : Int)) (hs : σ.sl ≤ 3072) (hM : MIv D σ s) (hS : Lstp D σ s m_X10_lastServed m_X11_lastServed [xIOB] [vI (σ.I 96 0 (i + 1))] okI) (kk : Kq D σ s i b bs Q) : V m_L_law 17 (b + 61) (bs + 419) 3348 [some (vR (some (96, 0))), some (vR (some (10, 0))), some (vR (some (11, 0))), some (vR (some (70, 0))), some (vR (some (71, 0))), some (vI i), none, none, none] [] σ Q := by
  obtain ⟨κ, w, D', s', hk, ⟨v, rfl⟩, hp, hc, hm⟩ := hS
  refine V_aldn1 a_L_law_3348 ?_
  refine V_aldn0 a_L_law_3349 ?_
  refine V_ild5 a_L_law_3350 ?_
  refine V_iconst a_L_law_3352 ?_
  refine V_iadd a_L_law_3353 ?_
  refine V_sld a_L_law_3354 (by omega) (by omega) ?_
  refine V_aldn3 a_L_law_3355 ?_
  refine V_w3PR a_L_law_3356 c_L_337 (W_lastServed hc) (fun τ hτ => ?_)
  obtain ⟨n1, c1, j1⟩ := hτ
  have e1 : τ.I 96 0 = σ.I 96 0 := n1.I n96_o7
  have e2 : τ.sl = σ.sl := n1.1
  have m1 := hm τ n1 c1 (hM.out n1 c1.wf no_o7)
  refine V_ist6 a_L_law_3359 ?_
  refine V_aldn2 a_L_law_3361 ?_
  refine V_aldn0 a_L_law_3362 ?_
  refine V_ild5 a_L_law_3363 ?_
  refine V_iconst a_L_law_3365 ?_
  refine V_iadd a_L_law_3366 ?_
  refine V_sldE a_L_law_3367 (by omega) (by omega) (congrFun e1 _) ?_
  refine V_v1PR a_L_law_3368 c_L_339 m1 (fun ρ hρ => ?_)
  obtain ⟨n2, ⟨A', q9, m2⟩, e6⟩ := hρ
  have c2 : CIv D' ρ (A', s'.2) := (c1.out n2 m2.1.2.1 no_ml).eq9 q9
  have e3 : ρ.I 96 0 = σ.I 96 0 := (n2.I n96_ml).trans e1
  have e4 : ρ.sl = σ.sl := n2.1.trans e2
  have j2 : κ = 0 → ρ.J 70 0 0 = v.bmod (2 ^ 32) := fun z => by rw [n2.J n70_ml]; exact j1 z
  refine V_ist7 a_L_law_3371 ?_
  refine V_aldn2 a_L_law_3373 ?_
  refine V_v0R a_L_law_3374 c_L_183 (R_thrE e6) ?_
  refine V_ild6 a_L_law_3377 ?_
  refine V_icmp_eq_t a_L_law_3379 (by omega) (by omega) ?_
  refine V_ild6 a_L_law_3384 ?_
  refine V_if_ne a_L_law_3386 (by omega) (fun hc3386 => ?_) (fun hc3386 => ?_)
  · refine V_goto a_L_law_3401 ?_
    exact V_fg3 (kk ρ D' (A', s'.2) c2 m2 hp e4 e3)
  · refine V_aldn3 a_L_law_3389 ?_
    refine V_iconst a_L_law_3390 ?_
    refine V_laldE a_L_law_3391 rfl (by omega) (j2 (by omega)) ?_
    refine V_ild7 a_L_law_3392 ?_
    refine V_i2lM a_L_law_3394 ?_
    refine V_lcmpG a_L_law_3395 ?_
    rw [c64_self]
    refine V_if_eq_t a_L_law_3396 (by omega) (by omega) ?_
    refine V_goto a_L_law_3401 ?_
    exact V_fg3 (kk ρ D' (A', s'.2) c2 m2 hp e4 e3)
theorem LC_total {σ : Hp} {D i : Int} {s : Lsv} {b bs : Nat} {Q : Res → Hp → Prop} (hi : 0 ≤ i ∧ i + 5 < (σ.sl : Int)) (hs : σ.sl ≤ 3072) (hM : MIv D σ s) (hS : Lstp D σ s m_X10_total m_X11_total [xIAE] [vI (σ.I 96 0 (i + 1))] okJ) (kk : Kq D σ s i b bs Q) : V m_L_law 17 (b + 61) (bs + 419) 3404 [some (vR (some (96, 0))), some (vR (some (10, 0))), some (vR (some (11, 0))), some (vR (some (70, 0))), some (vR (some (71, 0))), some (vI i), none, none, none] [] σ Q := by
  obtain ⟨κ, w, D', s', hk, ⟨v, rfl⟩, hp, hc, hm⟩ := hS
  refine V_aldn1 a_L_law_3404 ?_
  refine V_aldn0 a_L_law_3405 ?_
  refine V_ild5 a_L_law_3406 ?_
  refine V_iconst a_L_law_3408 ?_
  refine V_iadd a_L_law_3409 ?_
  refine V_sld a_L_law_3410 (by omega) (by omega) ?_
  refine V_aldn3 a_L_law_3411 ?_
  refine V_w3PR a_L_law_3412 c_L_340 (W_total hc) (fun τ hτ => ?_)
  obtain ⟨n1, c1, j1⟩ := hτ
  have e1 : τ.I 96 0 = σ.I 96 0 := n1.I n96_o7
  have e2 : τ.sl = σ.sl := n1.1
  have m1 := hm τ n1 c1 (hM.out n1 c1.wf no_o7)
  refine V_ist6 a_L_law_3415 ?_
  refine V_aldn2 a_L_law_3417 ?_
  refine V_aldn0 a_L_law_3418 ?_
  refine V_ild5 a_L_law_3419 ?_
  refine V_iconst a_L_law_3421 ?_
  refine V_iadd a_L_law_3422 ?_
  refine V_sldE a_L_law_3423 (by omega) (by omega) (congrFun e1 _) ?_
  refine V_v1PR a_L_law_3424 c_L_342 m1 (fun ρ hρ => ?_)
  obtain ⟨n2, ⟨A', q9, m2⟩, e6⟩ := hρ
  have c2 : CIv D' ρ (A', s'.2) := (c1.out n2 m2.1.2.1 no_ml).eq9 q9
  have e3 : ρ.I 96 0 = σ.I 96 0 := (n2.I n96_ml).trans e1
  have e4 : ρ.sl = σ.sl := n2.1.trans e2
  have j2 : κ = 0 → ρ.J 70 0 0 = v := fun z => by rw [n2.J n70_ml]; exact j1 z
  refine V_lst7 a_L_law_3427 ?_
  refine V_aldn2 a_L_law_3429 ?_
  refine V_v0R a_L_law_3430 c_L_183 (R_thrE e6) ?_
  refine V_ild6 a_L_law_3433 ?_
  refine V_icmp_eq_t a_L_law_3435 (by omega) (by omega) ?_
  refine V_ild6 a_L_law_3440 ?_
  refine V_if_ne a_L_law_3442 (by omega) (fun hc3442 => ?_) (fun hc3442 => ?_)
  · refine V_goto a_L_law_3456 ?_
    exact V_fg3 (kk ρ D' (A', s'.2) c2 m2 hp e4 e3)
  · refine V_aldn3 a_L_law_3445 ?_
    refine V_iconst a_L_law_3446 ?_
    refine V_laldE a_L_law_3447 rfl (by omega) (j2 (by omega)) ?_
    refine V_lld7 a_L_law_3448 ?_
    refine V_lcmpG a_L_law_3450 ?_
    rw [c64_self]
    refine V_if_eq_t a_L_law_3451 (by omega) (by omega) ?_
    refine V_goto a_L_law_3456 ?_
    exact V_fg3 (kk ρ D' (A', s'.2) c2 m2 hp e4 e3)
theorem LC_writeReport {σ : Hp} {D i : Int} {s : Lsv} {b bs : Nat} {Q : Res → Hp → Prop} (hi : 0 ≤ i ∧ i + 5 < (σ.sl : Int)) (hs : σ.sl ≤ 3072) (hM : MIv D σ s) (hS : Lstp D σ s m_X10_writeReport m_X11_writeReport [] [] okI) (kk : Kq D σ s i b bs Q) : V m_L_law 17 (b + 61) (bs + 419) 3459 [some (vR (some (96, 0))), some (vR (some (10, 0))), some (vR (some (11, 0))), some (vR (some (70, 0))), some (vR (some (71, 0))), some (vI i), none, none, none] [] σ Q := by
  obtain ⟨κ, w, D', s', hk, ⟨v, rfl⟩, hp, hc, hm⟩ := hS
  refine V_aldn1 a_L_law_3459 ?_
  refine V_v0PR a_L_law_3460 c_L_343 hc.cv (fun τ hτ => ?_)
  obtain ⟨n0, c1⟩ := hτ
  have n1 : Nw o7S σ τ := n0.sub (fun t n z => Or.inl z)
  have e1 : τ.I 96 0 = σ.I 96 0 := n1.I n96_o7
  have e2 : τ.sl = σ.sl := n1.1
  have m1 := hm τ n1 c1 (hM.out n1 c1.wf no_o7)
  refine V_aldn2 a_L_law_3463 ?_
  refine V_v0PR a_L_law_3464 c_L_346 m1 (fun ρ hρ => ?_)
  obtain ⟨n2, ⟨A', q9, m2⟩, e6⟩ := hρ
  have c2 : CIv D' ρ (A', s'.2) := (c1.out n2 m2.1.2.1 no_ml).eq9 q9
  have e3 : ρ.I 96 0 = σ.I 96 0 := (n2.I n96_ml).trans e1
  have e4 : ρ.sl = σ.sl := n2.1.trans e2
  exact V_icS a_L_law_3467 (kk ρ D' (A', s'.2) c2 m2 hp e4 e3)
theorem LC_reportByte {σ : Hp} {D i : Int} {s : Lsv} {b bs : Nat} {Q : Res → Hp → Prop} (hi : 0 ≤ i ∧ i + 5 < (σ.sl : Int)) (hs : σ.sl ≤ 3072) (hM : MIv D σ s) (hS : Lstp D σ s m_X10_reportByte m_X11_reportByte [xIOB] [vI (σ.I 96 0 (i + 1))] okI) (kk : Kq D σ s i b bs Q) : V m_L_law 17 (b + 61) (bs + 419) 3472 [some (vR (some (96, 0))), some (vR (some (10, 0))), some (vR (some (11, 0))), some (vR (some (70, 0))), some (vR (some (71, 0))), some (vI i), none, none, none] [] σ Q := by
  obtain ⟨κ, w, D', s', hk, ⟨v, rfl⟩, hp, hc, hm⟩ := hS
  refine V_aldn1 a_L_law_3472 ?_
  refine V_aldn0 a_L_law_3473 ?_
  refine V_ild5 a_L_law_3474 ?_
  refine V_iconst a_L_law_3476 ?_
  refine V_iadd a_L_law_3477 ?_
  refine V_sld a_L_law_3478 (by omega) (by omega) ?_
  refine V_aldn3 a_L_law_3479 ?_
  refine V_w3PR a_L_law_3480 c_L_347 (W_reportByte hc) (fun τ hτ => ?_)
  obtain ⟨n1, c1, j1⟩ := hτ
  have e1 : τ.I 96 0 = σ.I 96 0 := n1.I n96_o7
  have e2 : τ.sl = σ.sl := n1.1
  have m1 := hm τ n1 c1 (hM.out n1 c1.wf no_o7)
  refine V_ist6 a_L_law_3483 ?_
  refine V_aldn2 a_L_law_3485 ?_
  refine V_aldn0 a_L_law_3486 ?_
  refine V_ild5 a_L_law_3487 ?_
  refine V_iconst a_L_law_3489 ?_
  refine V_iadd a_L_law_3490 ?_
  refine V_sldE a_L_law_3491 (by omega) (by omega) (congrFun e1 _) ?_
  refine V_v1PR a_L_law_3492 c_L_349 m1 (fun ρ hρ => ?_)
  obtain ⟨n2, ⟨A', q9, m2⟩, e6⟩ := hρ
  have c2 : CIv D' ρ (A', s'.2) := (c1.out n2 m2.1.2.1 no_ml).eq9 q9
  have e3 : ρ.I 96 0 = σ.I 96 0 := (n2.I n96_ml).trans e1
  have e4 : ρ.sl = σ.sl := n2.1.trans e2
  have j2 : κ = 0 → ρ.J 70 0 0 = v.bmod (2 ^ 32) := fun z => by rw [n2.J n70_ml]; exact j1 z
  refine V_ist7 a_L_law_3495 ?_
  refine V_aldn2 a_L_law_3497 ?_
  refine V_v0R a_L_law_3498 c_L_183 (R_thrE e6) ?_
  refine V_ild6 a_L_law_3501 ?_
  refine V_icmp_eq_t a_L_law_3503 (by omega) (by omega) ?_
  refine V_ild6 a_L_law_3508 ?_
  refine V_if_ne a_L_law_3510 (by omega) (fun hc3510 => ?_) (fun hc3510 => ?_)
  · refine V_goto a_L_law_3525 ?_
    exact V_fg3 (kk ρ D' (A', s'.2) c2 m2 hp e4 e3)
  · refine V_aldn3 a_L_law_3513 ?_
    refine V_iconst a_L_law_3514 ?_
    refine V_laldE a_L_law_3515 rfl (by omega) (j2 (by omega)) ?_
    refine V_ild7 a_L_law_3516 ?_
    refine V_i2lM a_L_law_3518 ?_
    refine V_lcmpG a_L_law_3519 ?_
    rw [c64_self]
    refine V_if_eq_t a_L_law_3520 (by omega) (by omega) ?_
    refine V_goto a_L_law_3525 ?_
    exact V_fg3 (kk ρ D' (A', s'.2) c2 m2 hp e4 e3)
theorem LC_undo {σ : Hp} {D i : Int} {s : Lsv} {b bs : Nat} {Q : Res → Hp → Prop} (hi : 0 ≤ i ∧ i + 5 < (σ.sl : Int)) (hs : σ.sl ≤ 3072) (hM : MIv D σ s) (hS : Lstp D σ s m_X10_undo m_X11_undo [xISE] [] okI) (kk : Kq D σ s i b bs Q) : V m_L_law 17 (b + 61) (bs + 419) 3528 [some (vR (some (96, 0))), some (vR (some (10, 0))), some (vR (some (11, 0))), some (vR (some (70, 0))), some (vR (some (71, 0))), some (vI i), none, none, none] [] σ Q := by
  obtain ⟨κ, w, D', s', hk, ⟨v, rfl⟩, hp, hc, hm⟩ := hS
  refine V_aldn1 a_L_law_3528 ?_
  refine V_aldn3 a_L_law_3529 ?_
  refine V_w2PR a_L_law_3530 c_L_350 (W_undo hc) (fun τ hτ => ?_)
  obtain ⟨n1, c1, j1⟩ := hτ
  have e1 : τ.I 96 0 = σ.I 96 0 := n1.I n96_o7
  have e2 : τ.sl = σ.sl := n1.1
  have m1 := hm τ n1 c1 (hM.out n1 c1.wf no_o7)
  refine V_ist6 a_L_law_3533 ?_
  refine V_aldn2 a_L_law_3535 ?_
  refine V_v0PR a_L_law_3536 c_L_352 m1 (fun ρ hρ => ?_)
  obtain ⟨n2, ⟨A', q9, m2⟩, e6⟩ := hρ
  have c2 : CIv D' ρ (A', s'.2) := (c1.out n2 m2.1.2.1 no_ml).eq9 q9
  have e3 : ρ.I 96 0 = σ.I 96 0 := (n2.I n96_ml).trans e1
  have e4 : ρ.sl = σ.sl := n2.1.trans e2
  have j2 : κ = 0 → ρ.J 70 0 0 = v.bmod (2 ^ 32) := fun z => by rw [n2.J n70_ml]; exact j1 z
  refine V_ist7 a_L_law_3539 ?_
  refine V_aldn2 a_L_law_3541 ?_
  refine V_v0R a_L_law_3542 c_L_183 (R_thrE e6) ?_
  refine V_ild6 a_L_law_3545 ?_
  refine V_icmp_eq_t a_L_law_3547 (by omega) (by omega) ?_
  refine V_ild6 a_L_law_3552 ?_
  refine V_if_ne a_L_law_3554 (by omega) (fun hc3554 => ?_) (fun hc3554 => ?_)
  · refine V_goto a_L_law_3569 ?_
    exact V_fg3 (kk ρ D' (A', s'.2) c2 m2 hp e4 e3)
  · refine V_aldn3 a_L_law_3557 ?_
    refine V_iconst a_L_law_3558 ?_
    refine V_laldE a_L_law_3559 rfl (by omega) (j2 (by omega)) ?_
    refine V_ild7 a_L_law_3560 ?_
    refine V_i2lM a_L_law_3562 ?_
    refine V_lcmpG a_L_law_3563 ?_
    rw [c64_self]
    refine V_if_eq_t a_L_law_3564 (by omega) (by omega) ?_
    refine V_goto a_L_law_3569 ?_
    exact V_fg3 (kk ρ D' (A', s'.2) c2 m2 hp e4 e3)
theorem LC_undoDepth {σ : Hp} {D i : Int} {s : Lsv} {b bs : Nat} {Q : Res → Hp → Prop} (hi : 0 ≤ i ∧ i + 5 < (σ.sl : Int)) (hs : σ.sl ≤ 3072) (hM : MIv D σ s) (hS : Lstp D σ s m_X10_undoDepth m_X11_undoDepth [] [] okI) (kk : Kq D σ s i b bs Q) : V m_L_law 17 (b + 61) (bs + 419) 3572 [some (vR (some (96, 0))), some (vR (some (10, 0))), some (vR (some (11, 0))), some (vR (some (70, 0))), some (vR (some (71, 0))), some (vI i), none, none, none] [] σ Q := by
  obtain ⟨κ, w, D', s', hk, ⟨v, rfl⟩, hp, hc, hm⟩ := hS
  refine V_aldn1 a_L_law_3572 ?_
  refine V_v0PR a_L_law_3573 c_L_353 hc.cv (fun τ hτ => ?_)
  obtain ⟨n0, c1⟩ := hτ
  have n1 : Nw o7S σ τ := n0.sub (fun t n z => Or.inl z)
  have e1 : τ.I 96 0 = σ.I 96 0 := n1.I n96_o7
  have e2 : τ.sl = σ.sl := n1.1
  have m1 := hm τ n1 c1 (hM.out n1 c1.wf no_o7)
  refine V_aldn2 a_L_law_3576 ?_
  refine V_v0PR a_L_law_3577 c_L_356 m1 (fun ρ hρ => ?_)
  obtain ⟨n2, ⟨A', q9, m2⟩, e6⟩ := hρ
  have c2 : CIv D' ρ (A', s'.2) := (c1.out n2 m2.1.2.1 no_ml).eq9 q9
  have e3 : ρ.I 96 0 = σ.I 96 0 := (n2.I n96_ml).trans e1
  have e4 : ρ.sl = σ.sl := n2.1.trans e2
  exact V_icS a_L_law_3580 (kk ρ D' (A', s'.2) c2 m2 hp e4 e3)

