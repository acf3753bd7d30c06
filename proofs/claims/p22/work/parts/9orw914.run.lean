/-! the walk runs: 14 -/
set_option maxRecDepth 100000 in
theorem w_g2786 : w_g (nat_lit 2786) = true := by decide +kernel
theorem w_r2787 : w_rg 2787 := w_rg_s (n := 2786) w_r2786 w_g2786
set_option maxRecDepth 100000 in
theorem w_g2787 : w_g (nat_lit 2787) = true := by decide +kernel
theorem w_r2788 : w_rg 2788 := w_rg_s (n := 2787) w_r2787 w_g2787
set_option maxRecDepth 100000 in
theorem w_g2788 : w_g (nat_lit 2788) = true := by decide +kernel
theorem w_r2789 : w_rg 2789 := w_rg_s (n := 2788) w_r2788 w_g2788
set_option maxRecDepth 100000 in
theorem w_g2789 : w_g (nat_lit 2789) = true := by decide +kernel
theorem w_r2790 : w_rg 2790 := w_rg_s (n := 2789) w_r2789 w_g2789
set_option maxRecDepth 100000 in
theorem w_g2790 : w_g (nat_lit 2790) = true := by decide +kernel
theorem w_r2791 : w_rg 2791 := w_rg_s (n := 2790) w_r2790 w_g2790
set_option maxRecDepth 100000 in
theorem w_g2791 : w_g (nat_lit 2791) = true := by decide +kernel
theorem w_r2792 : w_rg 2792 := w_rg_s (n := 2791) w_r2791 w_g2791
set_option maxRecDepth 100000 in
theorem w_g2792 : w_g (nat_lit 2792) = true := by decide +kernel
theorem w_r2793 : w_rg 2793 := w_rg_s (n := 2792) w_r2792 w_g2792
set_option maxRecDepth 100000 in
theorem w_g2793 : w_g (nat_lit 2793) = true := by decide +kernel
theorem w_r2794 : w_rg 2794 := w_rg_s (n := 2793) w_r2793 w_g2793
set_option maxRecDepth 100000 in
theorem w_g2794 : w_g (nat_lit 2794) = true := by decide +kernel
theorem w_r2795 : w_rg 2795 := w_rg_s (n := 2794) w_r2794 w_g2794
set_option maxRecDepth 100000 in
theorem w_g2795 : w_g (nat_lit 2795) = true := by decide +kernel
theorem w_r2796 : w_rg 2796 := w_rg_s (n := 2795) w_r2795 w_g2795
set_option maxRecDepth 100000 in
theorem w_g2796 : w_g (nat_lit 2796) = true := by decide +kernel
theorem w_r2797 : w_rg 2797 := w_rg_s (n := 2796) w_r2796 w_g2796
set_option maxRecDepth 100000 in
theorem w_g2797 : w_g (nat_lit 2797) = true := by decide +kernel
theorem w_r2798 : w_rg 2798 := w_rg_s (n := 2797) w_r2797 w_g2797
set_option maxRecDepth 100000 in
theorem w_g2798 : w_g (nat_lit 2798) = true := by decide +kernel
theorem w_r2799 : w_rg 2799 := w_rg_s (n := 2798) w_r2798 w_g2798
set_option maxRecDepth 100000 in
theorem w_g2799 : w_g (nat_lit 2799) = true := by decide +kernel
theorem w_r2800 : w_rg 2800 := w_rg_s (n := 2799) w_r2799 w_g2799
set_option maxRecDepth 100000 in
theorem w_g2800 : w_g (nat_lit 2800) = true := by decide +kernel
theorem w_r2801 : w_rg 2801 := w_rg_s (n := 2800) w_r2800 w_g2800
set_option maxRecDepth 100000 in
theorem w_g2801 : w_g (nat_lit 2801) = true := by decide +kernel
theorem w_r2802 : w_rg 2802 := w_rg_s (n := 2801) w_r2801 w_g2801
set_option maxRecDepth 100000 in
theorem w_g2802 : w_g (nat_lit 2802) = true := by decide +kernel
theorem w_r2803 : w_rg 2803 := w_rg_s (n := 2802) w_r2802 w_g2802
set_option maxRecDepth 100000 in
theorem w_g2803 : w_g (nat_lit 2803) = true := by decide +kernel
theorem w_r2804 : w_rg 2804 := w_rg_s (n := 2803) w_r2803 w_g2803
set_option maxRecDepth 100000 in
theorem w_g2804 : w_g (nat_lit 2804) = true := by decide +kernel
theorem w_r2805 : w_rg 2805 := w_rg_s (n := 2804) w_r2804 w_g2804
set_option maxRecDepth 100000 in
theorem w_g2805 : w_g (nat_lit 2805) = true := by decide +kernel
theorem w_r2806 : w_rg 2806 := w_rg_s (n := 2805) w_r2805 w_g2805
set_option maxRecDepth 100000 in
theorem w_g2806 : w_g (nat_lit 2806) = true := by decide +kernel
theorem w_r2807 : w_rg 2807 := w_rg_s (n := 2806) w_r2806 w_g2806
set_option maxRecDepth 100000 in
theorem w_g2807 : w_g (nat_lit 2807) = true := by decide +kernel
theorem w_r2808 : w_rg 2808 := w_rg_s (n := 2807) w_r2807 w_g2807
set_option maxRecDepth 100000 in
theorem w_g2808 : w_g (nat_lit 2808) = true := by decide +kernel
theorem w_r2809 : w_rg 2809 := w_rg_s (n := 2808) w_r2808 w_g2808
set_option maxRecDepth 100000 in
theorem w_g2809 : w_g (nat_lit 2809) = true := by decide +kernel
theorem w_r2810 : w_rg 2810 := w_rg_s (n := 2809) w_r2809 w_g2809
set_option maxRecDepth 100000 in
theorem w_g2810 : w_g (nat_lit 2810) = true := by decide +kernel
theorem w_r2811 : w_rg 2811 := w_rg_s (n := 2810) w_r2810 w_g2810
set_option maxRecDepth 100000 in
theorem w_g2811 : w_g (nat_lit 2811) = true := by decide +kernel
theorem w_r2812 : w_rg 2812 := w_rg_s (n := 2811) w_r2811 w_g2811
set_option maxRecDepth 100000 in
theorem w_g2812 : w_g (nat_lit 2812) = true := by decide +kernel
theorem w_r2813 : w_rg 2813 := w_rg_s (n := 2812) w_r2812 w_g2812
set_option maxRecDepth 100000 in
theorem w_g2813 : w_g (nat_lit 2813) = true := by decide +kernel
theorem w_r2814 : w_rg 2814 := w_rg_s (n := 2813) w_r2813 w_g2813
set_option maxRecDepth 100000 in
theorem w_g2814 : w_g (nat_lit 2814) = true := by decide +kernel
theorem w_r2815 : w_rg 2815 := w_rg_s (n := 2814) w_r2814 w_g2814
set_option maxRecDepth 100000 in
theorem w_g2815 : w_g (nat_lit 2815) = true := by decide +kernel
theorem w_r2816 : w_rg 2816 := w_rg_s (n := 2815) w_r2815 w_g2815
set_option maxRecDepth 100000 in
theorem w_g2816 : w_g (nat_lit 2816) = true := by decide +kernel
theorem w_r2817 : w_rg 2817 := w_rg_s (n := 2816) w_r2816 w_g2816
set_option maxRecDepth 100000 in
theorem w_g2817 : w_g (nat_lit 2817) = true := by decide +kernel
theorem w_r2818 : w_rg 2818 := w_rg_s (n := 2817) w_r2817 w_g2817
set_option maxRecDepth 100000 in
theorem w_g2818 : w_g (nat_lit 2818) = true := by decide +kernel
theorem w_r2819 : w_rg 2819 := w_rg_s (n := 2818) w_r2818 w_g2818
set_option maxRecDepth 100000 in
theorem w_g2819 : w_g (nat_lit 2819) = true := by decide +kernel
theorem w_r2820 : w_rg 2820 := w_rg_s (n := 2819) w_r2819 w_g2819
set_option maxRecDepth 100000 in
theorem w_g2820 : w_g (nat_lit 2820) = true := by decide +kernel
theorem w_r2821 : w_rg 2821 := w_rg_s (n := 2820) w_r2820 w_g2820
set_option maxRecDepth 100000 in
theorem w_g2821 : w_g (nat_lit 2821) = true := by decide +kernel
theorem w_r2822 : w_rg 2822 := w_rg_s (n := 2821) w_r2821 w_g2821
set_option maxRecDepth 100000 in
theorem w_g2822 : w_g (nat_lit 2822) = true := by decide +kernel
theorem w_r2823 : w_rg 2823 := w_rg_s (n := 2822) w_r2822 w_g2822
set_option maxRecDepth 100000 in
theorem w_g2823 : w_g (nat_lit 2823) = true := by decide +kernel
theorem w_r2824 : w_rg 2824 := w_rg_s (n := 2823) w_r2823 w_g2823
set_option maxRecDepth 100000 in
theorem w_g2824 : w_g (nat_lit 2824) = true := by decide +kernel
theorem w_r2825 : w_rg 2825 := w_rg_s (n := 2824) w_r2824 w_g2824
set_option maxRecDepth 100000 in
theorem w_g2825 : w_g (nat_lit 2825) = true := by decide +kernel
theorem w_r2826 : w_rg 2826 := w_rg_s (n := 2825) w_r2825 w_g2825
set_option maxRecDepth 100000 in
theorem w_g2826 : w_g (nat_lit 2826) = true := by decide +kernel
theorem w_r2827 : w_rg 2827 := w_rg_s (n := 2826) w_r2826 w_g2826
set_option maxRecDepth 100000 in
theorem w_g2827 : w_g (nat_lit 2827) = true := by decide +kernel
theorem w_r2828 : w_rg 2828 := w_rg_s (n := 2827) w_r2827 w_g2827
set_option maxRecDepth 100000 in
theorem w_g2828 : w_g (nat_lit 2828) = true := by decide +kernel
theorem w_r2829 : w_rg 2829 := w_rg_s (n := 2828) w_r2828 w_g2828
set_option maxRecDepth 100000 in
theorem w_g2829 : w_g (nat_lit 2829) = true := by decide +kernel
theorem w_r2830 : w_rg 2830 := w_rg_s (n := 2829) w_r2829 w_g2829
set_option maxRecDepth 100000 in
theorem w_g2830 : w_g (nat_lit 2830) = true := by decide +kernel
theorem w_r2831 : w_rg 2831 := w_rg_s (n := 2830) w_r2830 w_g2830
set_option maxRecDepth 100000 in
theorem w_g2831 : w_g (nat_lit 2831) = true := by decide +kernel
theorem w_r2832 : w_rg 2832 := w_rg_s (n := 2831) w_r2831 w_g2831
set_option maxRecDepth 100000 in
theorem w_g2832 : w_g (nat_lit 2832) = true := by decide +kernel
theorem w_r2833 : w_rg 2833 := w_rg_s (n := 2832) w_r2832 w_g2832
set_option maxRecDepth 100000 in
theorem w_g2833 : w_g (nat_lit 2833) = true := by decide +kernel
theorem w_r2834 : w_rg 2834 := w_rg_s (n := 2833) w_r2833 w_g2833
set_option maxRecDepth 100000 in
theorem w_g2834 : w_g (nat_lit 2834) = true := by decide +kernel
theorem w_r2835 : w_rg 2835 := w_rg_s (n := 2834) w_r2834 w_g2834
set_option maxRecDepth 100000 in
theorem w_g2835 : w_g (nat_lit 2835) = true := by decide +kernel
theorem w_r2836 : w_rg 2836 := w_rg_s (n := 2835) w_r2835 w_g2835
set_option maxRecDepth 100000 in
theorem w_g2836 : w_g (nat_lit 2836) = true := by decide +kernel
theorem w_r2837 : w_rg 2837 := w_rg_s (n := 2836) w_r2836 w_g2836
set_option maxRecDepth 100000 in
theorem w_g2837 : w_g (nat_lit 2837) = true := by decide +kernel
theorem w_r2838 : w_rg 2838 := w_rg_s (n := 2837) w_r2837 w_g2837
set_option maxRecDepth 100000 in
theorem w_g2838 : w_g (nat_lit 2838) = true := by decide +kernel
theorem w_r2839 : w_rg 2839 := w_rg_s (n := 2838) w_r2838 w_g2838
set_option maxRecDepth 100000 in
theorem w_g2839 : w_g (nat_lit 2839) = true := by decide +kernel
theorem w_r2840 : w_rg 2840 := w_rg_s (n := 2839) w_r2839 w_g2839
set_option maxRecDepth 100000 in
theorem w_g2840 : w_g (nat_lit 2840) = true := by decide +kernel
theorem w_r2841 : w_rg 2841 := w_rg_s (n := 2840) w_r2840 w_g2840
set_option maxRecDepth 100000 in
theorem w_g2841 : w_g (nat_lit 2841) = true := by decide +kernel
theorem w_r2842 : w_rg 2842 := w_rg_s (n := 2841) w_r2841 w_g2841
set_option maxRecDepth 100000 in
theorem w_g2842 : w_g (nat_lit 2842) = true := by decide +kernel
theorem w_r2843 : w_rg 2843 := w_rg_s (n := 2842) w_r2842 w_g2842
set_option maxRecDepth 100000 in
theorem w_g2843 : w_g (nat_lit 2843) = true := by decide +kernel
theorem w_r2844 : w_rg 2844 := w_rg_s (n := 2843) w_r2843 w_g2843
set_option maxRecDepth 100000 in
theorem w_g2844 : w_g (nat_lit 2844) = true := by decide +kernel
theorem w_r2845 : w_rg 2845 := w_rg_s (n := 2844) w_r2844 w_g2844
set_option maxRecDepth 100000 in
theorem w_g2845 : w_g (nat_lit 2845) = true := by decide +kernel
theorem w_r2846 : w_rg 2846 := w_rg_s (n := 2845) w_r2845 w_g2845
set_option maxRecDepth 100000 in
theorem w_g2846 : w_g (nat_lit 2846) = true := by decide +kernel
theorem w_r2847 : w_rg 2847 := w_rg_s (n := 2846) w_r2846 w_g2846
set_option maxRecDepth 100000 in
theorem w_g2847 : w_g (nat_lit 2847) = true := by decide +kernel
theorem w_r2848 : w_rg 2848 := w_rg_s (n := 2847) w_r2847 w_g2847
set_option maxRecDepth 100000 in
theorem w_g2848 : w_g (nat_lit 2848) = true := by decide +kernel
theorem w_r2849 : w_rg 2849 := w_rg_s (n := 2848) w_r2848 w_g2848
set_option maxRecDepth 100000 in
theorem w_g2849 : w_g (nat_lit 2849) = true := by decide +kernel
theorem w_r2850 : w_rg 2850 := w_rg_s (n := 2849) w_r2849 w_g2849
set_option maxRecDepth 100000 in
theorem w_g2850 : w_g (nat_lit 2850) = true := by decide +kernel
theorem w_r2851 : w_rg 2851 := w_rg_s (n := 2850) w_r2850 w_g2850
set_option maxRecDepth 100000 in
theorem w_g2851 : w_g (nat_lit 2851) = true := by decide +kernel
theorem w_r2852 : w_rg 2852 := w_rg_s (n := 2851) w_r2851 w_g2851
set_option maxRecDepth 100000 in
theorem w_g2852 : w_g (nat_lit 2852) = true := by decide +kernel
theorem w_r2853 : w_rg 2853 := w_rg_s (n := 2852) w_r2852 w_g2852
set_option maxRecDepth 100000 in
theorem w_g2853 : w_g (nat_lit 2853) = true := by decide +kernel
theorem w_r2854 : w_rg 2854 := w_rg_s (n := 2853) w_r2853 w_g2853
set_option maxRecDepth 100000 in
theorem w_g2854 : w_g (nat_lit 2854) = true := by decide +kernel
theorem w_r2855 : w_rg 2855 := w_rg_s (n := 2854) w_r2854 w_g2854
set_option maxRecDepth 100000 in
theorem w_g2855 : w_g (nat_lit 2855) = true := by decide +kernel
theorem w_r2856 : w_rg 2856 := w_rg_s (n := 2855) w_r2855 w_g2855
set_option maxRecDepth 100000 in
theorem w_g2856 : w_g (nat_lit 2856) = true := by decide +kernel
theorem w_r2857 : w_rg 2857 := w_rg_s (n := 2856) w_r2856 w_g2856
set_option maxRecDepth 100000 in
theorem w_g2857 : w_g (nat_lit 2857) = true := by decide +kernel
theorem w_r2858 : w_rg 2858 := w_rg_s (n := 2857) w_r2857 w_g2857
set_option maxRecDepth 100000 in
theorem w_g2858 : w_g (nat_lit 2858) = true := by decide +kernel
theorem w_r2859 : w_rg 2859 := w_rg_s (n := 2858) w_r2858 w_g2858
set_option maxRecDepth 100000 in
theorem w_g2859 : w_g (nat_lit 2859) = true := by decide +kernel
theorem w_r2860 : w_rg 2860 := w_rg_s (n := 2859) w_r2859 w_g2859
set_option maxRecDepth 100000 in
theorem w_g2860 : w_g (nat_lit 2860) = true := by decide +kernel
theorem w_r2861 : w_rg 2861 := w_rg_s (n := 2860) w_r2860 w_g2860
set_option maxRecDepth 100000 in
theorem w_g2861 : w_g (nat_lit 2861) = true := by decide +kernel
theorem w_r2862 : w_rg 2862 := w_rg_s (n := 2861) w_r2861 w_g2861
set_option maxRecDepth 100000 in
theorem w_g2862 : w_g (nat_lit 2862) = true := by decide +kernel
theorem w_r2863 : w_rg 2863 := w_rg_s (n := 2862) w_r2862 w_g2862
set_option maxRecDepth 100000 in
theorem w_g2863 : w_g (nat_lit 2863) = true := by decide +kernel
theorem w_r2864 : w_rg 2864 := w_rg_s (n := 2863) w_r2863 w_g2863
set_option maxRecDepth 100000 in
theorem w_g2864 : w_g (nat_lit 2864) = true := by decide +kernel
theorem w_r2865 : w_rg 2865 := w_rg_s (n := 2864) w_r2864 w_g2864
set_option maxRecDepth 100000 in
theorem w_g2865 : w_g (nat_lit 2865) = true := by decide +kernel
theorem w_r2866 : w_rg 2866 := w_rg_s (n := 2865) w_r2865 w_g2865
set_option maxRecDepth 100000 in
theorem w_g2866 : w_g (nat_lit 2866) = true := by decide +kernel
theorem w_r2867 : w_rg 2867 := w_rg_s (n := 2866) w_r2866 w_g2866
set_option maxRecDepth 100000 in
theorem w_g2867 : w_g (nat_lit 2867) = true := by decide +kernel
theorem w_r2868 : w_rg 2868 := w_rg_s (n := 2867) w_r2867 w_g2867
set_option maxRecDepth 100000 in
theorem w_g2868 : w_g (nat_lit 2868) = true := by decide +kernel
theorem w_r2869 : w_rg 2869 := w_rg_s (n := 2868) w_r2868 w_g2868
set_option maxRecDepth 100000 in
theorem w_g2869 : w_g (nat_lit 2869) = true := by decide +kernel
theorem w_r2870 : w_rg 2870 := w_rg_s (n := 2869) w_r2869 w_g2869
set_option maxRecDepth 100000 in
theorem w_g2870 : w_g (nat_lit 2870) = true := by decide +kernel
theorem w_r2871 : w_rg 2871 := w_rg_s (n := 2870) w_r2870 w_g2870
set_option maxRecDepth 100000 in
theorem w_g2871 : w_g (nat_lit 2871) = true := by decide +kernel
theorem w_r2872 : w_rg 2872 := w_rg_s (n := 2871) w_r2871 w_g2871
set_option maxRecDepth 100000 in
theorem w_g2872 : w_g (nat_lit 2872) = true := by decide +kernel
theorem w_r2873 : w_rg 2873 := w_rg_s (n := 2872) w_r2872 w_g2872
set_option maxRecDepth 100000 in
theorem w_g2873 : w_g (nat_lit 2873) = true := by decide +kernel
theorem w_r2874 : w_rg 2874 := w_rg_s (n := 2873) w_r2873 w_g2873
set_option maxRecDepth 100000 in
theorem w_g2874 : w_g (nat_lit 2874) = true := by decide +kernel
theorem w_r2875 : w_rg 2875 := w_rg_s (n := 2874) w_r2874 w_g2874
set_option maxRecDepth 100000 in
theorem w_g2875 : w_g (nat_lit 2875) = true := by decide +kernel
theorem w_r2876 : w_rg 2876 := w_rg_s (n := 2875) w_r2875 w_g2875
set_option maxRecDepth 100000 in
theorem w_g2876 : w_g (nat_lit 2876) = true := by decide +kernel
theorem w_r2877 : w_rg 2877 := w_rg_s (n := 2876) w_r2876 w_g2876
set_option maxRecDepth 100000 in
theorem w_g2877 : w_g (nat_lit 2877) = true := by decide +kernel
theorem w_r2878 : w_rg 2878 := w_rg_s (n := 2877) w_r2877 w_g2877
set_option maxRecDepth 100000 in
theorem w_g2878 : w_g (nat_lit 2878) = true := by decide +kernel
theorem w_r2879 : w_rg 2879 := w_rg_s (n := 2878) w_r2878 w_g2878
set_option maxRecDepth 100000 in
theorem w_g2879 : w_g (nat_lit 2879) = true := by decide +kernel
theorem w_r2880 : w_rg 2880 := w_rg_s (n := 2879) w_r2879 w_g2879
set_option maxRecDepth 100000 in
theorem w_g2880 : w_g (nat_lit 2880) = true := by decide +kernel
theorem w_r2881 : w_rg 2881 := w_rg_s (n := 2880) w_r2880 w_g2880
set_option maxRecDepth 100000 in
theorem w_g2881 : w_g (nat_lit 2881) = true := by decide +kernel
theorem w_r2882 : w_rg 2882 := w_rg_s (n := 2881) w_r2881 w_g2881
set_option maxRecDepth 100000 in
theorem w_g2882 : w_g (nat_lit 2882) = true := by decide +kernel
theorem w_r2883 : w_rg 2883 := w_rg_s (n := 2882) w_r2882 w_g2882
set_option maxRecDepth 100000 in
theorem w_g2883 : w_g (nat_lit 2883) = true := by decide +kernel
theorem w_r2884 : w_rg 2884 := w_rg_s (n := 2883) w_r2883 w_g2883
set_option maxRecDepth 100000 in
theorem w_g2884 : w_g (nat_lit 2884) = true := by decide +kernel
theorem w_r2885 : w_rg 2885 := w_rg_s (n := 2884) w_r2884 w_g2884
set_option maxRecDepth 100000 in
theorem w_g2885 : w_g (nat_lit 2885) = true := by decide +kernel
theorem w_r2886 : w_rg 2886 := w_rg_s (n := 2885) w_r2885 w_g2885
set_option maxRecDepth 100000 in
theorem w_g2886 : w_g (nat_lit 2886) = true := by decide +kernel
theorem w_r2887 : w_rg 2887 := w_rg_s (n := 2886) w_r2886 w_g2886
set_option maxRecDepth 100000 in
theorem w_g2887 : w_g (nat_lit 2887) = true := by decide +kernel
theorem w_r2888 : w_rg 2888 := w_rg_s (n := 2887) w_r2887 w_g2887
set_option maxRecDepth 100000 in
theorem w_g2888 : w_g (nat_lit 2888) = true := by decide +kernel
theorem w_r2889 : w_rg 2889 := w_rg_s (n := 2888) w_r2888 w_g2888
set_option maxRecDepth 100000 in
theorem w_g2889 : w_g (nat_lit 2889) = true := by decide +kernel
theorem w_r2890 : w_rg 2890 := w_rg_s (n := 2889) w_r2889 w_g2889
set_option maxRecDepth 100000 in
theorem w_g2890 : w_g (nat_lit 2890) = true := by decide +kernel
theorem w_r2891 : w_rg 2891 := w_rg_s (n := 2890) w_r2890 w_g2890
set_option maxRecDepth 100000 in
theorem w_g2891 : w_g (nat_lit 2891) = true := by decide +kernel
theorem w_r2892 : w_rg 2892 := w_rg_s (n := 2891) w_r2891 w_g2891
set_option maxRecDepth 100000 in
theorem w_g2892 : w_g (nat_lit 2892) = true := by decide +kernel
theorem w_r2893 : w_rg 2893 := w_rg_s (n := 2892) w_r2892 w_g2892
set_option maxRecDepth 100000 in
theorem w_g2893 : w_g (nat_lit 2893) = true := by decide +kernel
theorem w_r2894 : w_rg 2894 := w_rg_s (n := 2893) w_r2893 w_g2893
set_option maxRecDepth 100000 in
theorem w_g2894 : w_g (nat_lit 2894) = true := by decide +kernel
theorem w_r2895 : w_rg 2895 := w_rg_s (n := 2894) w_r2894 w_g2894
set_option maxRecDepth 100000 in
theorem w_g2895 : w_g (nat_lit 2895) = true := by decide +kernel
theorem w_r2896 : w_rg 2896 := w_rg_s (n := 2895) w_r2895 w_g2895
set_option maxRecDepth 100000 in
theorem w_g2896 : w_g (nat_lit 2896) = true := by decide +kernel
theorem w_r2897 : w_rg 2897 := w_rg_s (n := 2896) w_r2896 w_g2896
set_option maxRecDepth 100000 in
theorem w_g2897 : w_g (nat_lit 2897) = true := by decide +kernel
theorem w_r2898 : w_rg 2898 := w_rg_s (n := 2897) w_r2897 w_g2897
set_option maxRecDepth 100000 in
theorem w_g2898 : w_g (nat_lit 2898) = true := by decide +kernel
theorem w_r2899 : w_rg 2899 := w_rg_s (n := 2898) w_r2898 w_g2898
set_option maxRecDepth 100000 in
theorem w_g2899 : w_g (nat_lit 2899) = true := by decide +kernel
theorem w_r2900 : w_rg 2900 := w_rg_s (n := 2899) w_r2899 w_g2899
set_option maxRecDepth 100000 in
theorem w_g2900 : w_g (nat_lit 2900) = true := by decide +kernel
theorem w_r2901 : w_rg 2901 := w_rg_s (n := 2900) w_r2900 w_g2900
set_option maxRecDepth 100000 in
theorem w_g2901 : w_g (nat_lit 2901) = true := by decide +kernel
theorem w_r2902 : w_rg 2902 := w_rg_s (n := 2901) w_r2901 w_g2901
set_option maxRecDepth 100000 in
theorem w_g2902 : w_g (nat_lit 2902) = true := by decide +kernel
theorem w_r2903 : w_rg 2903 := w_rg_s (n := 2902) w_r2902 w_g2902
set_option maxRecDepth 100000 in
theorem w_g2903 : w_g (nat_lit 2903) = true := by decide +kernel
theorem w_r2904 : w_rg 2904 := w_rg_s (n := 2903) w_r2903 w_g2903
set_option maxRecDepth 100000 in
theorem w_g2904 : w_g (nat_lit 2904) = true := by decide +kernel
theorem w_r2905 : w_rg 2905 := w_rg_s (n := 2904) w_r2904 w_g2904
set_option maxRecDepth 100000 in
theorem w_g2905 : w_g (nat_lit 2905) = true := by decide +kernel
theorem w_r2906 : w_rg 2906 := w_rg_s (n := 2905) w_r2905 w_g2905
set_option maxRecDepth 100000 in
theorem w_g2906 : w_g (nat_lit 2906) = true := by decide +kernel
theorem w_r2907 : w_rg 2907 := w_rg_s (n := 2906) w_r2906 w_g2906
set_option maxRecDepth 100000 in
theorem w_g2907 : w_g (nat_lit 2907) = true := by decide +kernel
theorem w_r2908 : w_rg 2908 := w_rg_s (n := 2907) w_r2907 w_g2907
set_option maxRecDepth 100000 in
theorem w_g2908 : w_g (nat_lit 2908) = true := by decide +kernel
theorem w_r2909 : w_rg 2909 := w_rg_s (n := 2908) w_r2908 w_g2908
set_option maxRecDepth 100000 in
theorem w_g2909 : w_g (nat_lit 2909) = true := by decide +kernel
theorem w_r2910 : w_rg 2910 := w_rg_s (n := 2909) w_r2909 w_g2909
set_option maxRecDepth 100000 in
theorem w_g2910 : w_g (nat_lit 2910) = true := by decide +kernel
theorem w_r2911 : w_rg 2911 := w_rg_s (n := 2910) w_r2910 w_g2910
set_option maxRecDepth 100000 in
theorem w_g2911 : w_g (nat_lit 2911) = true := by decide +kernel
theorem w_r2912 : w_rg 2912 := w_rg_s (n := 2911) w_r2911 w_g2911
set_option maxRecDepth 100000 in
theorem w_g2912 : w_g (nat_lit 2912) = true := by decide +kernel
theorem w_r2913 : w_rg 2913 := w_rg_s (n := 2912) w_r2912 w_g2912
set_option maxRecDepth 100000 in
theorem w_g2913 : w_g (nat_lit 2913) = true := by decide +kernel
theorem w_r2914 : w_rg 2914 := w_rg_s (n := 2913) w_r2913 w_g2913
set_option maxRecDepth 100000 in
theorem w_g2914 : w_g (nat_lit 2914) = true := by decide +kernel
theorem w_r2915 : w_rg 2915 := w_rg_s (n := 2914) w_r2914 w_g2914
set_option maxRecDepth 100000 in
theorem w_g2915 : w_g (nat_lit 2915) = true := by decide +kernel
theorem w_r2916 : w_rg 2916 := w_rg_s (n := 2915) w_r2915 w_g2915
set_option maxRecDepth 100000 in
theorem w_g2916 : w_g (nat_lit 2916) = true := by decide +kernel
theorem w_r2917 : w_rg 2917 := w_rg_s (n := 2916) w_r2916 w_g2916
set_option maxRecDepth 100000 in
theorem w_g2917 : w_g (nat_lit 2917) = true := by decide +kernel
theorem w_r2918 : w_rg 2918 := w_rg_s (n := 2917) w_r2917 w_g2917
set_option maxRecDepth 100000 in
theorem w_g2918 : w_g (nat_lit 2918) = true := by decide +kernel
theorem w_r2919 : w_rg 2919 := w_rg_s (n := 2918) w_r2918 w_g2918
set_option maxRecDepth 100000 in
theorem w_g2919 : w_g (nat_lit 2919) = true := by decide +kernel
theorem w_r2920 : w_rg 2920 := w_rg_s (n := 2919) w_r2919 w_g2919
set_option maxRecDepth 100000 in
theorem w_g2920 : w_g (nat_lit 2920) = true := by decide +kernel
theorem w_r2921 : w_rg 2921 := w_rg_s (n := 2920) w_r2920 w_g2920
set_option maxRecDepth 100000 in
theorem w_g2921 : w_g (nat_lit 2921) = true := by decide +kernel
theorem w_r2922 : w_rg 2922 := w_rg_s (n := 2921) w_r2921 w_g2921
set_option maxRecDepth 100000 in
theorem w_g2922 : w_g (nat_lit 2922) = true := by decide +kernel
theorem w_r2923 : w_rg 2923 := w_rg_s (n := 2922) w_r2922 w_g2922
set_option maxRecDepth 100000 in
theorem w_g2923 : w_g (nat_lit 2923) = true := by decide +kernel
theorem w_r2924 : w_rg 2924 := w_rg_s (n := 2923) w_r2923 w_g2923
set_option maxRecDepth 100000 in
theorem w_g2924 : w_g (nat_lit 2924) = true := by decide +kernel
theorem w_r2925 : w_rg 2925 := w_rg_s (n := 2924) w_r2924 w_g2924
set_option maxRecDepth 100000 in
theorem w_g2925 : w_g (nat_lit 2925) = true := by decide +kernel
theorem w_r2926 : w_rg 2926 := w_rg_s (n := 2925) w_r2925 w_g2925
set_option maxRecDepth 100000 in
theorem w_g2926 : w_g (nat_lit 2926) = true := by decide +kernel
theorem w_r2927 : w_rg 2927 := w_rg_s (n := 2926) w_r2926 w_g2926
set_option maxRecDepth 100000 in
theorem w_g2927 : w_g (nat_lit 2927) = true := by decide +kernel
theorem w_r2928 : w_rg 2928 := w_rg_s (n := 2927) w_r2927 w_g2927
set_option maxRecDepth 100000 in
theorem w_g2928 : w_g (nat_lit 2928) = true := by decide +kernel
theorem w_r2929 : w_rg 2929 := w_rg_s (n := 2928) w_r2928 w_g2928
set_option maxRecDepth 100000 in
theorem w_g2929 : w_g (nat_lit 2929) = true := by decide +kernel
theorem w_r2930 : w_rg 2930 := w_rg_s (n := 2929) w_r2929 w_g2929
set_option maxRecDepth 100000 in
theorem w_g2930 : w_g (nat_lit 2930) = true := by decide +kernel
theorem w_r2931 : w_rg 2931 := w_rg_s (n := 2930) w_r2930 w_g2930
set_option maxRecDepth 100000 in
theorem w_g2931 : w_g (nat_lit 2931) = true := by decide +kernel
theorem w_r2932 : w_rg 2932 := w_rg_s (n := 2931) w_r2931 w_g2931
set_option maxRecDepth 100000 in
theorem w_g2932 : w_g (nat_lit 2932) = true := by decide +kernel
theorem w_r2933 : w_rg 2933 := w_rg_s (n := 2932) w_r2932 w_g2932
set_option maxRecDepth 100000 in
theorem w_g2933 : w_g (nat_lit 2933) = true := by decide +kernel
theorem w_r2934 : w_rg 2934 := w_rg_s (n := 2933) w_r2933 w_g2933
set_option maxRecDepth 100000 in
theorem w_g2934 : w_g (nat_lit 2934) = true := by decide +kernel
theorem w_r2935 : w_rg 2935 := w_rg_s (n := 2934) w_r2934 w_g2934
set_option maxRecDepth 100000 in
theorem w_g2935 : w_g (nat_lit 2935) = true := by decide +kernel
theorem w_r2936 : w_rg 2936 := w_rg_s (n := 2935) w_r2935 w_g2935
set_option maxRecDepth 100000 in
theorem w_g2936 : w_g (nat_lit 2936) = true := by decide +kernel
theorem w_r2937 : w_rg 2937 := w_rg_s (n := 2936) w_r2936 w_g2936
set_option maxRecDepth 100000 in
theorem w_g2937 : w_g (nat_lit 2937) = true := by decide +kernel
theorem w_r2938 : w_rg 2938 := w_rg_s (n := 2937) w_r2937 w_g2937
set_option maxRecDepth 100000 in
theorem w_g2938 : w_g (nat_lit 2938) = true := by decide +kernel
theorem w_r2939 : w_rg 2939 := w_rg_s (n := 2938) w_r2938 w_g2938
set_option maxRecDepth 100000 in
theorem w_g2939 : w_g (nat_lit 2939) = true := by decide +kernel
theorem w_r2940 : w_rg 2940 := w_rg_s (n := 2939) w_r2939 w_g2939
set_option maxRecDepth 100000 in
theorem w_g2940 : w_g (nat_lit 2940) = true := by decide +kernel
theorem w_r2941 : w_rg 2941 := w_rg_s (n := 2940) w_r2940 w_g2940
set_option maxRecDepth 100000 in
theorem w_g2941 : w_g (nat_lit 2941) = true := by decide +kernel
theorem w_r2942 : w_rg 2942 := w_rg_s (n := 2941) w_r2941 w_g2941
set_option maxRecDepth 100000 in
theorem w_g2942 : w_g (nat_lit 2942) = true := by decide +kernel
theorem w_r2943 : w_rg 2943 := w_rg_s (n := 2942) w_r2942 w_g2942
set_option maxRecDepth 100000 in
theorem w_g2943 : w_g (nat_lit 2943) = true := by decide +kernel
theorem w_r2944 : w_rg 2944 := w_rg_s (n := 2943) w_r2943 w_g2943
set_option maxRecDepth 100000 in
theorem w_g2944 : w_g (nat_lit 2944) = true := by decide +kernel
theorem w_r2945 : w_rg 2945 := w_rg_s (n := 2944) w_r2944 w_g2944
set_option maxRecDepth 100000 in
theorem w_g2945 : w_g (nat_lit 2945) = true := by decide +kernel
theorem w_r2946 : w_rg 2946 := w_rg_s (n := 2945) w_r2945 w_g2945
set_option maxRecDepth 100000 in
theorem w_g2946 : w_g (nat_lit 2946) = true := by decide +kernel
theorem w_r2947 : w_rg 2947 := w_rg_s (n := 2946) w_r2946 w_g2946
set_option maxRecDepth 100000 in
theorem w_g2947 : w_g (nat_lit 2947) = true := by decide +kernel
theorem w_r2948 : w_rg 2948 := w_rg_s (n := 2947) w_r2947 w_g2947
set_option maxRecDepth 100000 in
theorem w_g2948 : w_g (nat_lit 2948) = true := by decide +kernel
theorem w_r2949 : w_rg 2949 := w_rg_s (n := 2948) w_r2948 w_g2948
set_option maxRecDepth 100000 in
theorem w_g2949 : w_g (nat_lit 2949) = true := by decide +kernel
theorem w_r2950 : w_rg 2950 := w_rg_s (n := 2949) w_r2949 w_g2949
set_option maxRecDepth 100000 in
theorem w_g2950 : w_g (nat_lit 2950) = true := by decide +kernel
theorem w_r2951 : w_rg 2951 := w_rg_s (n := 2950) w_r2950 w_g2950
set_option maxRecDepth 100000 in
theorem w_g2951 : w_g (nat_lit 2951) = true := by decide +kernel
theorem w_r2952 : w_rg 2952 := w_rg_s (n := 2951) w_r2951 w_g2951
set_option maxRecDepth 100000 in
theorem w_g2952 : w_g (nat_lit 2952) = true := by decide +kernel
theorem w_r2953 : w_rg 2953 := w_rg_s (n := 2952) w_r2952 w_g2952
set_option maxRecDepth 100000 in
theorem w_g2953 : w_g (nat_lit 2953) = true := by decide +kernel
theorem w_r2954 : w_rg 2954 := w_rg_s (n := 2953) w_r2953 w_g2953
set_option maxRecDepth 100000 in
theorem w_g2954 : w_g (nat_lit 2954) = true := by decide +kernel
theorem w_r2955 : w_rg 2955 := w_rg_s (n := 2954) w_r2954 w_g2954
set_option maxRecDepth 100000 in
theorem w_g2955 : w_g (nat_lit 2955) = true := by decide +kernel
theorem w_r2956 : w_rg 2956 := w_rg_s (n := 2955) w_r2955 w_g2955
set_option maxRecDepth 100000 in
theorem w_g2956 : w_g (nat_lit 2956) = true := by decide +kernel
theorem w_r2957 : w_rg 2957 := w_rg_s (n := 2956) w_r2956 w_g2956
set_option maxRecDepth 100000 in
theorem w_g2957 : w_g (nat_lit 2957) = true := by decide +kernel
theorem w_r2958 : w_rg 2958 := w_rg_s (n := 2957) w_r2957 w_g2957
set_option maxRecDepth 100000 in
theorem w_g2958 : w_g (nat_lit 2958) = true := by decide +kernel
theorem w_r2959 : w_rg 2959 := w_rg_s (n := 2958) w_r2958 w_g2958
set_option maxRecDepth 100000 in
theorem w_g2959 : w_g (nat_lit 2959) = true := by decide +kernel
theorem w_r2960 : w_rg 2960 := w_rg_s (n := 2959) w_r2959 w_g2959
set_option maxRecDepth 100000 in
theorem w_g2960 : w_g (nat_lit 2960) = true := by decide +kernel
theorem w_r2961 : w_rg 2961 := w_rg_s (n := 2960) w_r2960 w_g2960
set_option maxRecDepth 100000 in
theorem w_g2961 : w_g (nat_lit 2961) = true := by decide +kernel
theorem w_r2962 : w_rg 2962 := w_rg_s (n := 2961) w_r2961 w_g2961
set_option maxRecDepth 100000 in
theorem w_g2962 : w_g (nat_lit 2962) = true := by decide +kernel
theorem w_r2963 : w_rg 2963 := w_rg_s (n := 2962) w_r2962 w_g2962
set_option maxRecDepth 100000 in
theorem w_g2963 : w_g (nat_lit 2963) = true := by decide +kernel
theorem w_r2964 : w_rg 2964 := w_rg_s (n := 2963) w_r2963 w_g2963
set_option maxRecDepth 100000 in
theorem w_g2964 : w_g (nat_lit 2964) = true := by decide +kernel
theorem w_r2965 : w_rg 2965 := w_rg_s (n := 2964) w_r2964 w_g2964
set_option maxRecDepth 100000 in
theorem w_g2965 : w_g (nat_lit 2965) = true := by decide +kernel
theorem w_r2966 : w_rg 2966 := w_rg_s (n := 2965) w_r2965 w_g2965
set_option maxRecDepth 100000 in
theorem w_g2966 : w_g (nat_lit 2966) = true := by decide +kernel
theorem w_r2967 : w_rg 2967 := w_rg_s (n := 2966) w_r2966 w_g2966
set_option maxRecDepth 100000 in
theorem w_g2967 : w_g (nat_lit 2967) = true := by decide +kernel
theorem w_r2968 : w_rg 2968 := w_rg_s (n := 2967) w_r2967 w_g2967
set_option maxRecDepth 100000 in
theorem w_g2968 : w_g (nat_lit 2968) = true := by decide +kernel
theorem w_r2969 : w_rg 2969 := w_rg_s (n := 2968) w_r2968 w_g2968
set_option maxRecDepth 100000 in
theorem w_g2969 : w_g (nat_lit 2969) = true := by decide +kernel
theorem w_r2970 : w_rg 2970 := w_rg_s (n := 2969) w_r2969 w_g2969
set_option maxRecDepth 100000 in
theorem w_g2970 : w_g (nat_lit 2970) = true := by decide +kernel
theorem w_r2971 : w_rg 2971 := w_rg_s (n := 2970) w_r2970 w_g2970
set_option maxRecDepth 100000 in
theorem w_g2971 : w_g (nat_lit 2971) = true := by decide +kernel
theorem w_r2972 : w_rg 2972 := w_rg_s (n := 2971) w_r2971 w_g2971
set_option maxRecDepth 100000 in
theorem w_g2972 : w_g (nat_lit 2972) = true := by decide +kernel
theorem w_r2973 : w_rg 2973 := w_rg_s (n := 2972) w_r2972 w_g2972
set_option maxRecDepth 100000 in
theorem w_g2973 : w_g (nat_lit 2973) = true := by decide +kernel
theorem w_r2974 : w_rg 2974 := w_rg_s (n := 2973) w_r2973 w_g2973
set_option maxRecDepth 100000 in
theorem w_g2974 : w_g (nat_lit 2974) = true := by decide +kernel
theorem w_r2975 : w_rg 2975 := w_rg_s (n := 2974) w_r2974 w_g2974
set_option maxRecDepth 100000 in
theorem w_g2975 : w_g (nat_lit 2975) = true := by decide +kernel
theorem w_r2976 : w_rg 2976 := w_rg_s (n := 2975) w_r2975 w_g2975
set_option maxRecDepth 100000 in
theorem w_g2976 : w_g (nat_lit 2976) = true := by decide +kernel
theorem w_r2977 : w_rg 2977 := w_rg_s (n := 2976) w_r2976 w_g2976
set_option maxRecDepth 100000 in
theorem w_g2977 : w_g (nat_lit 2977) = true := by decide +kernel
theorem w_r2978 : w_rg 2978 := w_rg_s (n := 2977) w_r2977 w_g2977
set_option maxRecDepth 100000 in
theorem w_g2978 : w_g (nat_lit 2978) = true := by decide +kernel
theorem w_r2979 : w_rg 2979 := w_rg_s (n := 2978) w_r2978 w_g2978
set_option maxRecDepth 100000 in
theorem w_g2979 : w_g (nat_lit 2979) = true := by decide +kernel
theorem w_r2980 : w_rg 2980 := w_rg_s (n := 2979) w_r2979 w_g2979
set_option maxRecDepth 100000 in
theorem w_g2980 : w_g (nat_lit 2980) = true := by decide +kernel
theorem w_r2981 : w_rg 2981 := w_rg_s (n := 2980) w_r2980 w_g2980
set_option maxRecDepth 100000 in
theorem w_g2981 : w_g (nat_lit 2981) = true := by decide +kernel
theorem w_r2982 : w_rg 2982 := w_rg_s (n := 2981) w_r2981 w_g2981
set_option maxRecDepth 100000 in
theorem w_g2982 : w_g (nat_lit 2982) = true := by decide +kernel
theorem w_r2983 : w_rg 2983 := w_rg_s (n := 2982) w_r2982 w_g2982
set_option maxRecDepth 100000 in
theorem w_g2983 : w_g (nat_lit 2983) = true := by decide +kernel
theorem w_r2984 : w_rg 2984 := w_rg_s (n := 2983) w_r2983 w_g2983
set_option maxRecDepth 100000 in
theorem w_g2984 : w_g (nat_lit 2984) = true := by decide +kernel
theorem w_r2985 : w_rg 2985 := w_rg_s (n := 2984) w_r2984 w_g2984
