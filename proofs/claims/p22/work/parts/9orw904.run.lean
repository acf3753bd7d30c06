/-! the walk runs: 4 -/
set_option maxRecDepth 100000 in
theorem w_g796 : w_g (nat_lit 796) = true := by decide +kernel
theorem w_r797 : w_rg 797 := w_rg_s (n := 796) w_r796 w_g796
set_option maxRecDepth 100000 in
theorem w_g797 : w_g (nat_lit 797) = true := by decide +kernel
theorem w_r798 : w_rg 798 := w_rg_s (n := 797) w_r797 w_g797
set_option maxRecDepth 100000 in
theorem w_g798 : w_g (nat_lit 798) = true := by decide +kernel
theorem w_r799 : w_rg 799 := w_rg_s (n := 798) w_r798 w_g798
set_option maxRecDepth 100000 in
theorem w_g799 : w_g (nat_lit 799) = true := by decide +kernel
theorem w_r800 : w_rg 800 := w_rg_s (n := 799) w_r799 w_g799
set_option maxRecDepth 100000 in
theorem w_g800 : w_g (nat_lit 800) = true := by decide +kernel
theorem w_r801 : w_rg 801 := w_rg_s (n := 800) w_r800 w_g800
set_option maxRecDepth 100000 in
theorem w_g801 : w_g (nat_lit 801) = true := by decide +kernel
theorem w_r802 : w_rg 802 := w_rg_s (n := 801) w_r801 w_g801
set_option maxRecDepth 100000 in
theorem w_g802 : w_g (nat_lit 802) = true := by decide +kernel
theorem w_r803 : w_rg 803 := w_rg_s (n := 802) w_r802 w_g802
set_option maxRecDepth 100000 in
theorem w_g803 : w_g (nat_lit 803) = true := by decide +kernel
theorem w_r804 : w_rg 804 := w_rg_s (n := 803) w_r803 w_g803
set_option maxRecDepth 100000 in
theorem w_g804 : w_g (nat_lit 804) = true := by decide +kernel
theorem w_r805 : w_rg 805 := w_rg_s (n := 804) w_r804 w_g804
set_option maxRecDepth 100000 in
theorem w_g805 : w_g (nat_lit 805) = true := by decide +kernel
theorem w_r806 : w_rg 806 := w_rg_s (n := 805) w_r805 w_g805
set_option maxRecDepth 100000 in
theorem w_g806 : w_g (nat_lit 806) = true := by decide +kernel
theorem w_r807 : w_rg 807 := w_rg_s (n := 806) w_r806 w_g806
set_option maxRecDepth 100000 in
theorem w_g807 : w_g (nat_lit 807) = true := by decide +kernel
theorem w_r808 : w_rg 808 := w_rg_s (n := 807) w_r807 w_g807
set_option maxRecDepth 100000 in
theorem w_g808 : w_g (nat_lit 808) = true := by decide +kernel
theorem w_r809 : w_rg 809 := w_rg_s (n := 808) w_r808 w_g808
set_option maxRecDepth 100000 in
theorem w_g809 : w_g (nat_lit 809) = true := by decide +kernel
theorem w_r810 : w_rg 810 := w_rg_s (n := 809) w_r809 w_g809
set_option maxRecDepth 100000 in
theorem w_g810 : w_g (nat_lit 810) = true := by decide +kernel
theorem w_r811 : w_rg 811 := w_rg_s (n := 810) w_r810 w_g810
set_option maxRecDepth 100000 in
theorem w_g811 : w_g (nat_lit 811) = true := by decide +kernel
theorem w_r812 : w_rg 812 := w_rg_s (n := 811) w_r811 w_g811
set_option maxRecDepth 100000 in
theorem w_g812 : w_g (nat_lit 812) = true := by decide +kernel
theorem w_r813 : w_rg 813 := w_rg_s (n := 812) w_r812 w_g812
set_option maxRecDepth 100000 in
theorem w_g813 : w_g (nat_lit 813) = true := by decide +kernel
theorem w_r814 : w_rg 814 := w_rg_s (n := 813) w_r813 w_g813
set_option maxRecDepth 100000 in
theorem w_g814 : w_g (nat_lit 814) = true := by decide +kernel
theorem w_r815 : w_rg 815 := w_rg_s (n := 814) w_r814 w_g814
set_option maxRecDepth 100000 in
theorem w_g815 : w_g (nat_lit 815) = true := by decide +kernel
theorem w_r816 : w_rg 816 := w_rg_s (n := 815) w_r815 w_g815
set_option maxRecDepth 100000 in
theorem w_g816 : w_g (nat_lit 816) = true := by decide +kernel
theorem w_r817 : w_rg 817 := w_rg_s (n := 816) w_r816 w_g816
set_option maxRecDepth 100000 in
theorem w_g817 : w_g (nat_lit 817) = true := by decide +kernel
theorem w_r818 : w_rg 818 := w_rg_s (n := 817) w_r817 w_g817
set_option maxRecDepth 100000 in
theorem w_g818 : w_g (nat_lit 818) = true := by decide +kernel
theorem w_r819 : w_rg 819 := w_rg_s (n := 818) w_r818 w_g818
set_option maxRecDepth 100000 in
theorem w_g819 : w_g (nat_lit 819) = true := by decide +kernel
theorem w_r820 : w_rg 820 := w_rg_s (n := 819) w_r819 w_g819
set_option maxRecDepth 100000 in
theorem w_g820 : w_g (nat_lit 820) = true := by decide +kernel
theorem w_r821 : w_rg 821 := w_rg_s (n := 820) w_r820 w_g820
set_option maxRecDepth 100000 in
theorem w_g821 : w_g (nat_lit 821) = true := by decide +kernel
theorem w_r822 : w_rg 822 := w_rg_s (n := 821) w_r821 w_g821
set_option maxRecDepth 100000 in
theorem w_g822 : w_g (nat_lit 822) = true := by decide +kernel
theorem w_r823 : w_rg 823 := w_rg_s (n := 822) w_r822 w_g822
set_option maxRecDepth 100000 in
theorem w_g823 : w_g (nat_lit 823) = true := by decide +kernel
theorem w_r824 : w_rg 824 := w_rg_s (n := 823) w_r823 w_g823
set_option maxRecDepth 100000 in
theorem w_g824 : w_g (nat_lit 824) = true := by decide +kernel
theorem w_r825 : w_rg 825 := w_rg_s (n := 824) w_r824 w_g824
set_option maxRecDepth 100000 in
theorem w_g825 : w_g (nat_lit 825) = true := by decide +kernel
theorem w_r826 : w_rg 826 := w_rg_s (n := 825) w_r825 w_g825
set_option maxRecDepth 100000 in
theorem w_g826 : w_g (nat_lit 826) = true := by decide +kernel
theorem w_r827 : w_rg 827 := w_rg_s (n := 826) w_r826 w_g826
set_option maxRecDepth 100000 in
theorem w_g827 : w_g (nat_lit 827) = true := by decide +kernel
theorem w_r828 : w_rg 828 := w_rg_s (n := 827) w_r827 w_g827
set_option maxRecDepth 100000 in
theorem w_g828 : w_g (nat_lit 828) = true := by decide +kernel
theorem w_r829 : w_rg 829 := w_rg_s (n := 828) w_r828 w_g828
set_option maxRecDepth 100000 in
theorem w_g829 : w_g (nat_lit 829) = true := by decide +kernel
theorem w_r830 : w_rg 830 := w_rg_s (n := 829) w_r829 w_g829
set_option maxRecDepth 100000 in
theorem w_g830 : w_g (nat_lit 830) = true := by decide +kernel
theorem w_r831 : w_rg 831 := w_rg_s (n := 830) w_r830 w_g830
set_option maxRecDepth 100000 in
theorem w_g831 : w_g (nat_lit 831) = true := by decide +kernel
theorem w_r832 : w_rg 832 := w_rg_s (n := 831) w_r831 w_g831
set_option maxRecDepth 100000 in
theorem w_g832 : w_g (nat_lit 832) = true := by decide +kernel
theorem w_r833 : w_rg 833 := w_rg_s (n := 832) w_r832 w_g832
set_option maxRecDepth 100000 in
theorem w_g833 : w_g (nat_lit 833) = true := by decide +kernel
theorem w_r834 : w_rg 834 := w_rg_s (n := 833) w_r833 w_g833
set_option maxRecDepth 100000 in
theorem w_g834 : w_g (nat_lit 834) = true := by decide +kernel
theorem w_r835 : w_rg 835 := w_rg_s (n := 834) w_r834 w_g834
set_option maxRecDepth 100000 in
theorem w_g835 : w_g (nat_lit 835) = true := by decide +kernel
theorem w_r836 : w_rg 836 := w_rg_s (n := 835) w_r835 w_g835
set_option maxRecDepth 100000 in
theorem w_g836 : w_g (nat_lit 836) = true := by decide +kernel
theorem w_r837 : w_rg 837 := w_rg_s (n := 836) w_r836 w_g836
set_option maxRecDepth 100000 in
theorem w_g837 : w_g (nat_lit 837) = true := by decide +kernel
theorem w_r838 : w_rg 838 := w_rg_s (n := 837) w_r837 w_g837
set_option maxRecDepth 100000 in
theorem w_g838 : w_g (nat_lit 838) = true := by decide +kernel
theorem w_r839 : w_rg 839 := w_rg_s (n := 838) w_r838 w_g838
set_option maxRecDepth 100000 in
theorem w_g839 : w_g (nat_lit 839) = true := by decide +kernel
theorem w_r840 : w_rg 840 := w_rg_s (n := 839) w_r839 w_g839
set_option maxRecDepth 100000 in
theorem w_g840 : w_g (nat_lit 840) = true := by decide +kernel
theorem w_r841 : w_rg 841 := w_rg_s (n := 840) w_r840 w_g840
set_option maxRecDepth 100000 in
theorem w_g841 : w_g (nat_lit 841) = true := by decide +kernel
theorem w_r842 : w_rg 842 := w_rg_s (n := 841) w_r841 w_g841
set_option maxRecDepth 100000 in
theorem w_g842 : w_g (nat_lit 842) = true := by decide +kernel
theorem w_r843 : w_rg 843 := w_rg_s (n := 842) w_r842 w_g842
set_option maxRecDepth 100000 in
theorem w_g843 : w_g (nat_lit 843) = true := by decide +kernel
theorem w_r844 : w_rg 844 := w_rg_s (n := 843) w_r843 w_g843
set_option maxRecDepth 100000 in
theorem w_g844 : w_g (nat_lit 844) = true := by decide +kernel
theorem w_r845 : w_rg 845 := w_rg_s (n := 844) w_r844 w_g844
set_option maxRecDepth 100000 in
theorem w_g845 : w_g (nat_lit 845) = true := by decide +kernel
theorem w_r846 : w_rg 846 := w_rg_s (n := 845) w_r845 w_g845
set_option maxRecDepth 100000 in
theorem w_g846 : w_g (nat_lit 846) = true := by decide +kernel
theorem w_r847 : w_rg 847 := w_rg_s (n := 846) w_r846 w_g846
set_option maxRecDepth 100000 in
theorem w_g847 : w_g (nat_lit 847) = true := by decide +kernel
theorem w_r848 : w_rg 848 := w_rg_s (n := 847) w_r847 w_g847
set_option maxRecDepth 100000 in
theorem w_g848 : w_g (nat_lit 848) = true := by decide +kernel
theorem w_r849 : w_rg 849 := w_rg_s (n := 848) w_r848 w_g848
set_option maxRecDepth 100000 in
theorem w_g849 : w_g (nat_lit 849) = true := by decide +kernel
theorem w_r850 : w_rg 850 := w_rg_s (n := 849) w_r849 w_g849
set_option maxRecDepth 100000 in
theorem w_g850 : w_g (nat_lit 850) = true := by decide +kernel
theorem w_r851 : w_rg 851 := w_rg_s (n := 850) w_r850 w_g850
set_option maxRecDepth 100000 in
theorem w_g851 : w_g (nat_lit 851) = true := by decide +kernel
theorem w_r852 : w_rg 852 := w_rg_s (n := 851) w_r851 w_g851
set_option maxRecDepth 100000 in
theorem w_g852 : w_g (nat_lit 852) = true := by decide +kernel
theorem w_r853 : w_rg 853 := w_rg_s (n := 852) w_r852 w_g852
set_option maxRecDepth 100000 in
theorem w_g853 : w_g (nat_lit 853) = true := by decide +kernel
theorem w_r854 : w_rg 854 := w_rg_s (n := 853) w_r853 w_g853
set_option maxRecDepth 100000 in
theorem w_g854 : w_g (nat_lit 854) = true := by decide +kernel
theorem w_r855 : w_rg 855 := w_rg_s (n := 854) w_r854 w_g854
set_option maxRecDepth 100000 in
theorem w_g855 : w_g (nat_lit 855) = true := by decide +kernel
theorem w_r856 : w_rg 856 := w_rg_s (n := 855) w_r855 w_g855
set_option maxRecDepth 100000 in
theorem w_g856 : w_g (nat_lit 856) = true := by decide +kernel
theorem w_r857 : w_rg 857 := w_rg_s (n := 856) w_r856 w_g856
set_option maxRecDepth 100000 in
theorem w_g857 : w_g (nat_lit 857) = true := by decide +kernel
theorem w_r858 : w_rg 858 := w_rg_s (n := 857) w_r857 w_g857
set_option maxRecDepth 100000 in
theorem w_g858 : w_g (nat_lit 858) = true := by decide +kernel
theorem w_r859 : w_rg 859 := w_rg_s (n := 858) w_r858 w_g858
set_option maxRecDepth 100000 in
theorem w_g859 : w_g (nat_lit 859) = true := by decide +kernel
theorem w_r860 : w_rg 860 := w_rg_s (n := 859) w_r859 w_g859
set_option maxRecDepth 100000 in
theorem w_g860 : w_g (nat_lit 860) = true := by decide +kernel
theorem w_r861 : w_rg 861 := w_rg_s (n := 860) w_r860 w_g860
set_option maxRecDepth 100000 in
theorem w_g861 : w_g (nat_lit 861) = true := by decide +kernel
theorem w_r862 : w_rg 862 := w_rg_s (n := 861) w_r861 w_g861
set_option maxRecDepth 100000 in
theorem w_g862 : w_g (nat_lit 862) = true := by decide +kernel
theorem w_r863 : w_rg 863 := w_rg_s (n := 862) w_r862 w_g862
set_option maxRecDepth 100000 in
theorem w_g863 : w_g (nat_lit 863) = true := by decide +kernel
theorem w_r864 : w_rg 864 := w_rg_s (n := 863) w_r863 w_g863
set_option maxRecDepth 100000 in
theorem w_g864 : w_g (nat_lit 864) = true := by decide +kernel
theorem w_r865 : w_rg 865 := w_rg_s (n := 864) w_r864 w_g864
set_option maxRecDepth 100000 in
theorem w_g865 : w_g (nat_lit 865) = true := by decide +kernel
theorem w_r866 : w_rg 866 := w_rg_s (n := 865) w_r865 w_g865
set_option maxRecDepth 100000 in
theorem w_g866 : w_g (nat_lit 866) = true := by decide +kernel
theorem w_r867 : w_rg 867 := w_rg_s (n := 866) w_r866 w_g866
set_option maxRecDepth 100000 in
theorem w_g867 : w_g (nat_lit 867) = true := by decide +kernel
theorem w_r868 : w_rg 868 := w_rg_s (n := 867) w_r867 w_g867
set_option maxRecDepth 100000 in
theorem w_g868 : w_g (nat_lit 868) = true := by decide +kernel
theorem w_r869 : w_rg 869 := w_rg_s (n := 868) w_r868 w_g868
set_option maxRecDepth 100000 in
theorem w_g869 : w_g (nat_lit 869) = true := by decide +kernel
theorem w_r870 : w_rg 870 := w_rg_s (n := 869) w_r869 w_g869
set_option maxRecDepth 100000 in
theorem w_g870 : w_g (nat_lit 870) = true := by decide +kernel
theorem w_r871 : w_rg 871 := w_rg_s (n := 870) w_r870 w_g870
set_option maxRecDepth 100000 in
theorem w_g871 : w_g (nat_lit 871) = true := by decide +kernel
theorem w_r872 : w_rg 872 := w_rg_s (n := 871) w_r871 w_g871
set_option maxRecDepth 100000 in
theorem w_g872 : w_g (nat_lit 872) = true := by decide +kernel
theorem w_r873 : w_rg 873 := w_rg_s (n := 872) w_r872 w_g872
set_option maxRecDepth 100000 in
theorem w_g873 : w_g (nat_lit 873) = true := by decide +kernel
theorem w_r874 : w_rg 874 := w_rg_s (n := 873) w_r873 w_g873
set_option maxRecDepth 100000 in
theorem w_g874 : w_g (nat_lit 874) = true := by decide +kernel
theorem w_r875 : w_rg 875 := w_rg_s (n := 874) w_r874 w_g874
set_option maxRecDepth 100000 in
theorem w_g875 : w_g (nat_lit 875) = true := by decide +kernel
theorem w_r876 : w_rg 876 := w_rg_s (n := 875) w_r875 w_g875
set_option maxRecDepth 100000 in
theorem w_g876 : w_g (nat_lit 876) = true := by decide +kernel
theorem w_r877 : w_rg 877 := w_rg_s (n := 876) w_r876 w_g876
set_option maxRecDepth 100000 in
theorem w_g877 : w_g (nat_lit 877) = true := by decide +kernel
theorem w_r878 : w_rg 878 := w_rg_s (n := 877) w_r877 w_g877
set_option maxRecDepth 100000 in
theorem w_g878 : w_g (nat_lit 878) = true := by decide +kernel
theorem w_r879 : w_rg 879 := w_rg_s (n := 878) w_r878 w_g878
set_option maxRecDepth 100000 in
theorem w_g879 : w_g (nat_lit 879) = true := by decide +kernel
theorem w_r880 : w_rg 880 := w_rg_s (n := 879) w_r879 w_g879
set_option maxRecDepth 100000 in
theorem w_g880 : w_g (nat_lit 880) = true := by decide +kernel
theorem w_r881 : w_rg 881 := w_rg_s (n := 880) w_r880 w_g880
set_option maxRecDepth 100000 in
theorem w_g881 : w_g (nat_lit 881) = true := by decide +kernel
theorem w_r882 : w_rg 882 := w_rg_s (n := 881) w_r881 w_g881
set_option maxRecDepth 100000 in
theorem w_g882 : w_g (nat_lit 882) = true := by decide +kernel
theorem w_r883 : w_rg 883 := w_rg_s (n := 882) w_r882 w_g882
set_option maxRecDepth 100000 in
theorem w_g883 : w_g (nat_lit 883) = true := by decide +kernel
theorem w_r884 : w_rg 884 := w_rg_s (n := 883) w_r883 w_g883
set_option maxRecDepth 100000 in
theorem w_g884 : w_g (nat_lit 884) = true := by decide +kernel
theorem w_r885 : w_rg 885 := w_rg_s (n := 884) w_r884 w_g884
set_option maxRecDepth 100000 in
theorem w_g885 : w_g (nat_lit 885) = true := by decide +kernel
theorem w_r886 : w_rg 886 := w_rg_s (n := 885) w_r885 w_g885
set_option maxRecDepth 100000 in
theorem w_g886 : w_g (nat_lit 886) = true := by decide +kernel
theorem w_r887 : w_rg 887 := w_rg_s (n := 886) w_r886 w_g886
set_option maxRecDepth 100000 in
theorem w_g887 : w_g (nat_lit 887) = true := by decide +kernel
theorem w_r888 : w_rg 888 := w_rg_s (n := 887) w_r887 w_g887
set_option maxRecDepth 100000 in
theorem w_g888 : w_g (nat_lit 888) = true := by decide +kernel
theorem w_r889 : w_rg 889 := w_rg_s (n := 888) w_r888 w_g888
set_option maxRecDepth 100000 in
theorem w_g889 : w_g (nat_lit 889) = true := by decide +kernel
theorem w_r890 : w_rg 890 := w_rg_s (n := 889) w_r889 w_g889
set_option maxRecDepth 100000 in
theorem w_g890 : w_g (nat_lit 890) = true := by decide +kernel
theorem w_r891 : w_rg 891 := w_rg_s (n := 890) w_r890 w_g890
set_option maxRecDepth 100000 in
theorem w_g891 : w_g (nat_lit 891) = true := by decide +kernel
theorem w_r892 : w_rg 892 := w_rg_s (n := 891) w_r891 w_g891
set_option maxRecDepth 100000 in
theorem w_g892 : w_g (nat_lit 892) = true := by decide +kernel
theorem w_r893 : w_rg 893 := w_rg_s (n := 892) w_r892 w_g892
set_option maxRecDepth 100000 in
theorem w_g893 : w_g (nat_lit 893) = true := by decide +kernel
theorem w_r894 : w_rg 894 := w_rg_s (n := 893) w_r893 w_g893
set_option maxRecDepth 100000 in
theorem w_g894 : w_g (nat_lit 894) = true := by decide +kernel
theorem w_r895 : w_rg 895 := w_rg_s (n := 894) w_r894 w_g894
set_option maxRecDepth 100000 in
theorem w_g895 : w_g (nat_lit 895) = true := by decide +kernel
theorem w_r896 : w_rg 896 := w_rg_s (n := 895) w_r895 w_g895
set_option maxRecDepth 100000 in
theorem w_g896 : w_g (nat_lit 896) = true := by decide +kernel
theorem w_r897 : w_rg 897 := w_rg_s (n := 896) w_r896 w_g896
set_option maxRecDepth 100000 in
theorem w_g897 : w_g (nat_lit 897) = true := by decide +kernel
theorem w_r898 : w_rg 898 := w_rg_s (n := 897) w_r897 w_g897
set_option maxRecDepth 100000 in
theorem w_g898 : w_g (nat_lit 898) = true := by decide +kernel
theorem w_r899 : w_rg 899 := w_rg_s (n := 898) w_r898 w_g898
set_option maxRecDepth 100000 in
theorem w_g899 : w_g (nat_lit 899) = true := by decide +kernel
theorem w_r900 : w_rg 900 := w_rg_s (n := 899) w_r899 w_g899
set_option maxRecDepth 100000 in
theorem w_g900 : w_g (nat_lit 900) = true := by decide +kernel
theorem w_r901 : w_rg 901 := w_rg_s (n := 900) w_r900 w_g900
set_option maxRecDepth 100000 in
theorem w_g901 : w_g (nat_lit 901) = true := by decide +kernel
theorem w_r902 : w_rg 902 := w_rg_s (n := 901) w_r901 w_g901
set_option maxRecDepth 100000 in
theorem w_g902 : w_g (nat_lit 902) = true := by decide +kernel
theorem w_r903 : w_rg 903 := w_rg_s (n := 902) w_r902 w_g902
set_option maxRecDepth 100000 in
theorem w_g903 : w_g (nat_lit 903) = true := by decide +kernel
theorem w_r904 : w_rg 904 := w_rg_s (n := 903) w_r903 w_g903
set_option maxRecDepth 100000 in
theorem w_g904 : w_g (nat_lit 904) = true := by decide +kernel
theorem w_r905 : w_rg 905 := w_rg_s (n := 904) w_r904 w_g904
set_option maxRecDepth 100000 in
theorem w_g905 : w_g (nat_lit 905) = true := by decide +kernel
theorem w_r906 : w_rg 906 := w_rg_s (n := 905) w_r905 w_g905
set_option maxRecDepth 100000 in
theorem w_g906 : w_g (nat_lit 906) = true := by decide +kernel
theorem w_r907 : w_rg 907 := w_rg_s (n := 906) w_r906 w_g906
set_option maxRecDepth 100000 in
theorem w_g907 : w_g (nat_lit 907) = true := by decide +kernel
theorem w_r908 : w_rg 908 := w_rg_s (n := 907) w_r907 w_g907
set_option maxRecDepth 100000 in
theorem w_g908 : w_g (nat_lit 908) = true := by decide +kernel
theorem w_r909 : w_rg 909 := w_rg_s (n := 908) w_r908 w_g908
set_option maxRecDepth 100000 in
theorem w_g909 : w_g (nat_lit 909) = true := by decide +kernel
theorem w_r910 : w_rg 910 := w_rg_s (n := 909) w_r909 w_g909
set_option maxRecDepth 100000 in
theorem w_g910 : w_g (nat_lit 910) = true := by decide +kernel
theorem w_r911 : w_rg 911 := w_rg_s (n := 910) w_r910 w_g910
set_option maxRecDepth 100000 in
theorem w_g911 : w_g (nat_lit 911) = true := by decide +kernel
theorem w_r912 : w_rg 912 := w_rg_s (n := 911) w_r911 w_g911
set_option maxRecDepth 100000 in
theorem w_g912 : w_g (nat_lit 912) = true := by decide +kernel
theorem w_r913 : w_rg 913 := w_rg_s (n := 912) w_r912 w_g912
set_option maxRecDepth 100000 in
theorem w_g913 : w_g (nat_lit 913) = true := by decide +kernel
theorem w_r914 : w_rg 914 := w_rg_s (n := 913) w_r913 w_g913
set_option maxRecDepth 100000 in
theorem w_g914 : w_g (nat_lit 914) = true := by decide +kernel
theorem w_r915 : w_rg 915 := w_rg_s (n := 914) w_r914 w_g914
set_option maxRecDepth 100000 in
theorem w_g915 : w_g (nat_lit 915) = true := by decide +kernel
theorem w_r916 : w_rg 916 := w_rg_s (n := 915) w_r915 w_g915
set_option maxRecDepth 100000 in
theorem w_g916 : w_g (nat_lit 916) = true := by decide +kernel
theorem w_r917 : w_rg 917 := w_rg_s (n := 916) w_r916 w_g916
set_option maxRecDepth 100000 in
theorem w_g917 : w_g (nat_lit 917) = true := by decide +kernel
theorem w_r918 : w_rg 918 := w_rg_s (n := 917) w_r917 w_g917
set_option maxRecDepth 100000 in
theorem w_g918 : w_g (nat_lit 918) = true := by decide +kernel
theorem w_r919 : w_rg 919 := w_rg_s (n := 918) w_r918 w_g918
set_option maxRecDepth 100000 in
theorem w_g919 : w_g (nat_lit 919) = true := by decide +kernel
theorem w_r920 : w_rg 920 := w_rg_s (n := 919) w_r919 w_g919
set_option maxRecDepth 100000 in
theorem w_g920 : w_g (nat_lit 920) = true := by decide +kernel
theorem w_r921 : w_rg 921 := w_rg_s (n := 920) w_r920 w_g920
set_option maxRecDepth 100000 in
theorem w_g921 : w_g (nat_lit 921) = true := by decide +kernel
theorem w_r922 : w_rg 922 := w_rg_s (n := 921) w_r921 w_g921
set_option maxRecDepth 100000 in
theorem w_g922 : w_g (nat_lit 922) = true := by decide +kernel
theorem w_r923 : w_rg 923 := w_rg_s (n := 922) w_r922 w_g922
set_option maxRecDepth 100000 in
theorem w_g923 : w_g (nat_lit 923) = true := by decide +kernel
theorem w_r924 : w_rg 924 := w_rg_s (n := 923) w_r923 w_g923
set_option maxRecDepth 100000 in
theorem w_g924 : w_g (nat_lit 924) = true := by decide +kernel
theorem w_r925 : w_rg 925 := w_rg_s (n := 924) w_r924 w_g924
set_option maxRecDepth 100000 in
theorem w_g925 : w_g (nat_lit 925) = true := by decide +kernel
theorem w_r926 : w_rg 926 := w_rg_s (n := 925) w_r925 w_g925
set_option maxRecDepth 100000 in
theorem w_g926 : w_g (nat_lit 926) = true := by decide +kernel
theorem w_r927 : w_rg 927 := w_rg_s (n := 926) w_r926 w_g926
set_option maxRecDepth 100000 in
theorem w_g927 : w_g (nat_lit 927) = true := by decide +kernel
theorem w_r928 : w_rg 928 := w_rg_s (n := 927) w_r927 w_g927
set_option maxRecDepth 100000 in
theorem w_g928 : w_g (nat_lit 928) = true := by decide +kernel
theorem w_r929 : w_rg 929 := w_rg_s (n := 928) w_r928 w_g928
set_option maxRecDepth 100000 in
theorem w_g929 : w_g (nat_lit 929) = true := by decide +kernel
theorem w_r930 : w_rg 930 := w_rg_s (n := 929) w_r929 w_g929
set_option maxRecDepth 100000 in
theorem w_g930 : w_g (nat_lit 930) = true := by decide +kernel
theorem w_r931 : w_rg 931 := w_rg_s (n := 930) w_r930 w_g930
set_option maxRecDepth 100000 in
theorem w_g931 : w_g (nat_lit 931) = true := by decide +kernel
theorem w_r932 : w_rg 932 := w_rg_s (n := 931) w_r931 w_g931
set_option maxRecDepth 100000 in
theorem w_g932 : w_g (nat_lit 932) = true := by decide +kernel
theorem w_r933 : w_rg 933 := w_rg_s (n := 932) w_r932 w_g932
set_option maxRecDepth 100000 in
theorem w_g933 : w_g (nat_lit 933) = true := by decide +kernel
theorem w_r934 : w_rg 934 := w_rg_s (n := 933) w_r933 w_g933
set_option maxRecDepth 100000 in
theorem w_g934 : w_g (nat_lit 934) = true := by decide +kernel
theorem w_r935 : w_rg 935 := w_rg_s (n := 934) w_r934 w_g934
set_option maxRecDepth 100000 in
theorem w_g935 : w_g (nat_lit 935) = true := by decide +kernel
theorem w_r936 : w_rg 936 := w_rg_s (n := 935) w_r935 w_g935
set_option maxRecDepth 100000 in
theorem w_g936 : w_g (nat_lit 936) = true := by decide +kernel
theorem w_r937 : w_rg 937 := w_rg_s (n := 936) w_r936 w_g936
set_option maxRecDepth 100000 in
theorem w_g937 : w_g (nat_lit 937) = true := by decide +kernel
theorem w_r938 : w_rg 938 := w_rg_s (n := 937) w_r937 w_g937
set_option maxRecDepth 100000 in
theorem w_g938 : w_g (nat_lit 938) = true := by decide +kernel
theorem w_r939 : w_rg 939 := w_rg_s (n := 938) w_r938 w_g938
set_option maxRecDepth 100000 in
theorem w_g939 : w_g (nat_lit 939) = true := by decide +kernel
theorem w_r940 : w_rg 940 := w_rg_s (n := 939) w_r939 w_g939
set_option maxRecDepth 100000 in
theorem w_g940 : w_g (nat_lit 940) = true := by decide +kernel
theorem w_r941 : w_rg 941 := w_rg_s (n := 940) w_r940 w_g940
set_option maxRecDepth 100000 in
theorem w_g941 : w_g (nat_lit 941) = true := by decide +kernel
theorem w_r942 : w_rg 942 := w_rg_s (n := 941) w_r941 w_g941
set_option maxRecDepth 100000 in
theorem w_g942 : w_g (nat_lit 942) = true := by decide +kernel
theorem w_r943 : w_rg 943 := w_rg_s (n := 942) w_r942 w_g942
set_option maxRecDepth 100000 in
theorem w_g943 : w_g (nat_lit 943) = true := by decide +kernel
theorem w_r944 : w_rg 944 := w_rg_s (n := 943) w_r943 w_g943
set_option maxRecDepth 100000 in
theorem w_g944 : w_g (nat_lit 944) = true := by decide +kernel
theorem w_r945 : w_rg 945 := w_rg_s (n := 944) w_r944 w_g944
set_option maxRecDepth 100000 in
theorem w_g945 : w_g (nat_lit 945) = true := by decide +kernel
theorem w_r946 : w_rg 946 := w_rg_s (n := 945) w_r945 w_g945
set_option maxRecDepth 100000 in
theorem w_g946 : w_g (nat_lit 946) = true := by decide +kernel
theorem w_r947 : w_rg 947 := w_rg_s (n := 946) w_r946 w_g946
set_option maxRecDepth 100000 in
theorem w_g947 : w_g (nat_lit 947) = true := by decide +kernel
theorem w_r948 : w_rg 948 := w_rg_s (n := 947) w_r947 w_g947
set_option maxRecDepth 100000 in
theorem w_g948 : w_g (nat_lit 948) = true := by decide +kernel
theorem w_r949 : w_rg 949 := w_rg_s (n := 948) w_r948 w_g948
set_option maxRecDepth 100000 in
theorem w_g949 : w_g (nat_lit 949) = true := by decide +kernel
theorem w_r950 : w_rg 950 := w_rg_s (n := 949) w_r949 w_g949
set_option maxRecDepth 100000 in
theorem w_g950 : w_g (nat_lit 950) = true := by decide +kernel
theorem w_r951 : w_rg 951 := w_rg_s (n := 950) w_r950 w_g950
set_option maxRecDepth 100000 in
theorem w_g951 : w_g (nat_lit 951) = true := by decide +kernel
theorem w_r952 : w_rg 952 := w_rg_s (n := 951) w_r951 w_g951
set_option maxRecDepth 100000 in
theorem w_g952 : w_g (nat_lit 952) = true := by decide +kernel
theorem w_r953 : w_rg 953 := w_rg_s (n := 952) w_r952 w_g952
set_option maxRecDepth 100000 in
theorem w_g953 : w_g (nat_lit 953) = true := by decide +kernel
theorem w_r954 : w_rg 954 := w_rg_s (n := 953) w_r953 w_g953
set_option maxRecDepth 100000 in
theorem w_g954 : w_g (nat_lit 954) = true := by decide +kernel
theorem w_r955 : w_rg 955 := w_rg_s (n := 954) w_r954 w_g954
set_option maxRecDepth 100000 in
theorem w_g955 : w_g (nat_lit 955) = true := by decide +kernel
theorem w_r956 : w_rg 956 := w_rg_s (n := 955) w_r955 w_g955
set_option maxRecDepth 100000 in
theorem w_g956 : w_g (nat_lit 956) = true := by decide +kernel
theorem w_r957 : w_rg 957 := w_rg_s (n := 956) w_r956 w_g956
set_option maxRecDepth 100000 in
theorem w_g957 : w_g (nat_lit 957) = true := by decide +kernel
theorem w_r958 : w_rg 958 := w_rg_s (n := 957) w_r957 w_g957
set_option maxRecDepth 100000 in
theorem w_g958 : w_g (nat_lit 958) = true := by decide +kernel
theorem w_r959 : w_rg 959 := w_rg_s (n := 958) w_r958 w_g958
set_option maxRecDepth 100000 in
theorem w_g959 : w_g (nat_lit 959) = true := by decide +kernel
theorem w_r960 : w_rg 960 := w_rg_s (n := 959) w_r959 w_g959
set_option maxRecDepth 100000 in
theorem w_g960 : w_g (nat_lit 960) = true := by decide +kernel
theorem w_r961 : w_rg 961 := w_rg_s (n := 960) w_r960 w_g960
set_option maxRecDepth 100000 in
theorem w_g961 : w_g (nat_lit 961) = true := by decide +kernel
theorem w_r962 : w_rg 962 := w_rg_s (n := 961) w_r961 w_g961
set_option maxRecDepth 100000 in
theorem w_g962 : w_g (nat_lit 962) = true := by decide +kernel
theorem w_r963 : w_rg 963 := w_rg_s (n := 962) w_r962 w_g962
set_option maxRecDepth 100000 in
theorem w_g963 : w_g (nat_lit 963) = true := by decide +kernel
theorem w_r964 : w_rg 964 := w_rg_s (n := 963) w_r963 w_g963
set_option maxRecDepth 100000 in
theorem w_g964 : w_g (nat_lit 964) = true := by decide +kernel
theorem w_r965 : w_rg 965 := w_rg_s (n := 964) w_r964 w_g964
set_option maxRecDepth 100000 in
theorem w_g965 : w_g (nat_lit 965) = true := by decide +kernel
theorem w_r966 : w_rg 966 := w_rg_s (n := 965) w_r965 w_g965
set_option maxRecDepth 100000 in
theorem w_g966 : w_g (nat_lit 966) = true := by decide +kernel
theorem w_r967 : w_rg 967 := w_rg_s (n := 966) w_r966 w_g966
set_option maxRecDepth 100000 in
theorem w_g967 : w_g (nat_lit 967) = true := by decide +kernel
theorem w_r968 : w_rg 968 := w_rg_s (n := 967) w_r967 w_g967
set_option maxRecDepth 100000 in
theorem w_g968 : w_g (nat_lit 968) = true := by decide +kernel
theorem w_r969 : w_rg 969 := w_rg_s (n := 968) w_r968 w_g968
set_option maxRecDepth 100000 in
theorem w_g969 : w_g (nat_lit 969) = true := by decide +kernel
theorem w_r970 : w_rg 970 := w_rg_s (n := 969) w_r969 w_g969
set_option maxRecDepth 100000 in
theorem w_g970 : w_g (nat_lit 970) = true := by decide +kernel
theorem w_r971 : w_rg 971 := w_rg_s (n := 970) w_r970 w_g970
set_option maxRecDepth 100000 in
theorem w_g971 : w_g (nat_lit 971) = true := by decide +kernel
theorem w_r972 : w_rg 972 := w_rg_s (n := 971) w_r971 w_g971
set_option maxRecDepth 100000 in
theorem w_g972 : w_g (nat_lit 972) = true := by decide +kernel
theorem w_r973 : w_rg 973 := w_rg_s (n := 972) w_r972 w_g972
set_option maxRecDepth 100000 in
theorem w_g973 : w_g (nat_lit 973) = true := by decide +kernel
theorem w_r974 : w_rg 974 := w_rg_s (n := 973) w_r973 w_g973
set_option maxRecDepth 100000 in
theorem w_g974 : w_g (nat_lit 974) = true := by decide +kernel
theorem w_r975 : w_rg 975 := w_rg_s (n := 974) w_r974 w_g974
set_option maxRecDepth 100000 in
theorem w_g975 : w_g (nat_lit 975) = true := by decide +kernel
theorem w_r976 : w_rg 976 := w_rg_s (n := 975) w_r975 w_g975
set_option maxRecDepth 100000 in
theorem w_g976 : w_g (nat_lit 976) = true := by decide +kernel
theorem w_r977 : w_rg 977 := w_rg_s (n := 976) w_r976 w_g976
set_option maxRecDepth 100000 in
theorem w_g977 : w_g (nat_lit 977) = true := by decide +kernel
theorem w_r978 : w_rg 978 := w_rg_s (n := 977) w_r977 w_g977
set_option maxRecDepth 100000 in
theorem w_g978 : w_g (nat_lit 978) = true := by decide +kernel
theorem w_r979 : w_rg 979 := w_rg_s (n := 978) w_r978 w_g978
set_option maxRecDepth 100000 in
theorem w_g979 : w_g (nat_lit 979) = true := by decide +kernel
theorem w_r980 : w_rg 980 := w_rg_s (n := 979) w_r979 w_g979
set_option maxRecDepth 100000 in
theorem w_g980 : w_g (nat_lit 980) = true := by decide +kernel
theorem w_r981 : w_rg 981 := w_rg_s (n := 980) w_r980 w_g980
set_option maxRecDepth 100000 in
theorem w_g981 : w_g (nat_lit 981) = true := by decide +kernel
theorem w_r982 : w_rg 982 := w_rg_s (n := 981) w_r981 w_g981
set_option maxRecDepth 100000 in
theorem w_g982 : w_g (nat_lit 982) = true := by decide +kernel
theorem w_r983 : w_rg 983 := w_rg_s (n := 982) w_r982 w_g982
set_option maxRecDepth 100000 in
theorem w_g983 : w_g (nat_lit 983) = true := by decide +kernel
theorem w_r984 : w_rg 984 := w_rg_s (n := 983) w_r983 w_g983
set_option maxRecDepth 100000 in
theorem w_g984 : w_g (nat_lit 984) = true := by decide +kernel
theorem w_r985 : w_rg 985 := w_rg_s (n := 984) w_r984 w_g984
set_option maxRecDepth 100000 in
theorem w_g985 : w_g (nat_lit 985) = true := by decide +kernel
theorem w_r986 : w_rg 986 := w_rg_s (n := 985) w_r985 w_g985
set_option maxRecDepth 100000 in
theorem w_g986 : w_g (nat_lit 986) = true := by decide +kernel
theorem w_r987 : w_rg 987 := w_rg_s (n := 986) w_r986 w_g986
set_option maxRecDepth 100000 in
theorem w_g987 : w_g (nat_lit 987) = true := by decide +kernel
theorem w_r988 : w_rg 988 := w_rg_s (n := 987) w_r987 w_g987
set_option maxRecDepth 100000 in
theorem w_g988 : w_g (nat_lit 988) = true := by decide +kernel
theorem w_r989 : w_rg 989 := w_rg_s (n := 988) w_r988 w_g988
set_option maxRecDepth 100000 in
theorem w_g989 : w_g (nat_lit 989) = true := by decide +kernel
theorem w_r990 : w_rg 990 := w_rg_s (n := 989) w_r989 w_g989
set_option maxRecDepth 100000 in
theorem w_g990 : w_g (nat_lit 990) = true := by decide +kernel
theorem w_r991 : w_rg 991 := w_rg_s (n := 990) w_r990 w_g990
set_option maxRecDepth 100000 in
theorem w_g991 : w_g (nat_lit 991) = true := by decide +kernel
theorem w_r992 : w_rg 992 := w_rg_s (n := 991) w_r991 w_g991
set_option maxRecDepth 100000 in
theorem w_g992 : w_g (nat_lit 992) = true := by decide +kernel
theorem w_r993 : w_rg 993 := w_rg_s (n := 992) w_r992 w_g992
set_option maxRecDepth 100000 in
theorem w_g993 : w_g (nat_lit 993) = true := by decide +kernel
theorem w_r994 : w_rg 994 := w_rg_s (n := 993) w_r993 w_g993
set_option maxRecDepth 100000 in
theorem w_g994 : w_g (nat_lit 994) = true := by decide +kernel
theorem w_r995 : w_rg 995 := w_rg_s (n := 994) w_r994 w_g994
