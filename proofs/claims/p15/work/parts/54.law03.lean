theorem dL_law_768_g : (decode cL_law 768 = .ok (.iaload, 1)) ∧ (decode cL_law 769 = .ok (.aload_n 0, 1)) ∧ (decode cL_law 770 = .ok (.iload 4, 2)) ∧ (decode cL_law 772 = .ok (.iconst 2, 1)) ∧ (decode cL_law 773 = .ok (.iadd, 1)) ∧ (decode cL_law 774 = .ok (.iaload, 1)) ∧ (decode cL_law 775 = .ok (.invokevirtual 91, 3)) ∧ (decode cL_law 778 = .ok (.pop, 1)) := by decide +kernel
theorem dL_law_768 : decode cL_law 768 = .ok (.iaload, 1) := dL_law_768_g.1
theorem dL_law_769 : decode cL_law 769 = .ok (.aload_n 0, 1) := dL_law_768_g.2.1
theorem dL_law_770 : decode cL_law 770 = .ok (.iload 4, 2) := dL_law_768_g.2.2.1
theorem dL_law_772 : decode cL_law 772 = .ok (.iconst 2, 1) := dL_law_768_g.2.2.2.1
theorem dL_law_773 : decode cL_law 773 = .ok (.iadd, 1) := dL_law_768_g.2.2.2.2.1
theorem dL_law_774 : decode cL_law 774 = .ok (.iaload, 1) := dL_law_768_g.2.2.2.2.2.1
theorem dL_law_775 : decode cL_law 775 = .ok (.invokevirtual 91, 3) := dL_law_768_g.2.2.2.2.2.2.1
theorem dL_law_778 : decode cL_law 778 = .ok (.pop, 1) := dL_law_768_g.2.2.2.2.2.2.2
theorem dL_law_779_g : (decode cL_law 779 = .ok (.goto 815, 3)) ∧ (decode cL_law 782 = .ok (.aload_n 1, 1)) ∧ (decode cL_law 783 = .ok (.aload_n 0, 1)) ∧ (decode cL_law 784 = .ok (.iload 4, 2)) ∧ (decode cL_law 786 = .ok (.iconst 1, 1)) ∧ (decode cL_law 787 = .ok (.iadd, 1)) ∧ (decode cL_law 788 = .ok (.iaload, 1)) ∧ (decode cL_law 789 = .ok (.aload_n 0, 1)) := by decide +kernel
theorem dL_law_779 : decode cL_law 779 = .ok (.goto 815, 3) := dL_law_779_g.1
theorem dL_law_782 : decode cL_law 782 = .ok (.aload_n 1, 1) := dL_law_779_g.2.1
theorem dL_law_783 : decode cL_law 783 = .ok (.aload_n 0, 1) := dL_law_779_g.2.2.1
theorem dL_law_784 : decode cL_law 784 = .ok (.iload 4, 2) := dL_law_779_g.2.2.2.1
theorem dL_law_786 : decode cL_law 786 = .ok (.iconst 1, 1) := dL_law_779_g.2.2.2.2.1
theorem dL_law_787 : decode cL_law 787 = .ok (.iadd, 1) := dL_law_779_g.2.2.2.2.2.1
theorem dL_law_788 : decode cL_law 788 = .ok (.iaload, 1) := dL_law_779_g.2.2.2.2.2.2.1
theorem dL_law_789 : decode cL_law 789 = .ok (.aload_n 0, 1) := dL_law_779_g.2.2.2.2.2.2.2
theorem dL_law_790_g : (decode cL_law 790 = .ok (.iload 4, 2)) ∧ (decode cL_law 792 = .ok (.iconst 2, 1)) ∧ (decode cL_law 793 = .ok (.iadd, 1)) ∧ (decode cL_law 794 = .ok (.iaload, 1)) ∧ (decode cL_law 795 = .ok (.invokevirtual 92, 3)) ∧ (decode cL_law 798 = .ok (.pop, 1)) ∧ (decode cL_law 799 = .ok (.aload_n 2, 1)) ∧ (decode cL_law 800 = .ok (.aload_n 0, 1)) := by decide +kernel
theorem dL_law_790 : decode cL_law 790 = .ok (.iload 4, 2) := dL_law_790_g.1
theorem dL_law_792 : decode cL_law 792 = .ok (.iconst 2, 1) := dL_law_790_g.2.1
theorem dL_law_793 : decode cL_law 793 = .ok (.iadd, 1) := dL_law_790_g.2.2.1
theorem dL_law_794 : decode cL_law 794 = .ok (.iaload, 1) := dL_law_790_g.2.2.2.1
theorem dL_law_795 : decode cL_law 795 = .ok (.invokevirtual 92, 3) := dL_law_790_g.2.2.2.2.1
theorem dL_law_798 : decode cL_law 798 = .ok (.pop, 1) := dL_law_790_g.2.2.2.2.2.1
theorem dL_law_799 : decode cL_law 799 = .ok (.aload_n 2, 1) := dL_law_790_g.2.2.2.2.2.2.1
theorem dL_law_800 : decode cL_law 800 = .ok (.aload_n 0, 1) := dL_law_790_g.2.2.2.2.2.2.2
theorem dL_law_801_g : (decode cL_law 801 = .ok (.iload 4, 2)) ∧ (decode cL_law 803 = .ok (.iconst 1, 1)) ∧ (decode cL_law 804 = .ok (.iadd, 1)) ∧ (decode cL_law 805 = .ok (.iaload, 1)) ∧ (decode cL_law 806 = .ok (.aload_n 0, 1)) ∧ (decode cL_law 807 = .ok (.iload 4, 2)) ∧ (decode cL_law 809 = .ok (.iconst 2, 1)) ∧ (decode cL_law 810 = .ok (.iadd, 1)) := by decide +kernel
theorem dL_law_801 : decode cL_law 801 = .ok (.iload 4, 2) := dL_law_801_g.1
theorem dL_law_803 : decode cL_law 803 = .ok (.iconst 1, 1) := dL_law_801_g.2.1
theorem dL_law_804 : decode cL_law 804 = .ok (.iadd, 1) := dL_law_801_g.2.2.1
theorem dL_law_805 : decode cL_law 805 = .ok (.iaload, 1) := dL_law_801_g.2.2.2.1
theorem dL_law_806 : decode cL_law 806 = .ok (.aload_n 0, 1) := dL_law_801_g.2.2.2.2.1
theorem dL_law_807 : decode cL_law 807 = .ok (.iload 4, 2) := dL_law_801_g.2.2.2.2.2.1
theorem dL_law_809 : decode cL_law 809 = .ok (.iconst 2, 1) := dL_law_801_g.2.2.2.2.2.2.1
theorem dL_law_810 : decode cL_law 810 = .ok (.iadd, 1) := dL_law_801_g.2.2.2.2.2.2.2
theorem dL_law_811_g : (decode cL_law 811 = .ok (.iaload, 1)) ∧ (decode cL_law 812 = .ok (.invokevirtual 95, 3)) ∧ (decode cL_law 815 = .ok (.pop, 1)) ∧ (decode cL_law 816 = .ok (.goto 778, 3)) ∧ (decode cL_law 819 = .ok (.aload_n 1, 1)) ∧ (decode cL_law 820 = .ok (.aload_n 0, 1)) ∧ (decode cL_law 821 = .ok (.iload 4, 2)) ∧ (decode cL_law 823 = .ok (.iconst 1, 1)) := by decide +kernel
theorem dL_law_811 : decode cL_law 811 = .ok (.iaload, 1) := dL_law_811_g.1
theorem dL_law_812 : decode cL_law 812 = .ok (.invokevirtual 95, 3) := dL_law_811_g.2.1
theorem dL_law_815 : decode cL_law 815 = .ok (.pop, 1) := dL_law_811_g.2.2.1
theorem dL_law_816 : decode cL_law 816 = .ok (.goto 778, 3) := dL_law_811_g.2.2.2.1
theorem dL_law_819 : decode cL_law 819 = .ok (.aload_n 1, 1) := dL_law_811_g.2.2.2.2.1
theorem dL_law_820 : decode cL_law 820 = .ok (.aload_n 0, 1) := dL_law_811_g.2.2.2.2.2.1
theorem dL_law_821 : decode cL_law 821 = .ok (.iload 4, 2) := dL_law_811_g.2.2.2.2.2.2.1
theorem dL_law_823 : decode cL_law 823 = .ok (.iconst 1, 1) := dL_law_811_g.2.2.2.2.2.2.2
theorem dL_law_824_g : (decode cL_law 824 = .ok (.iadd, 1)) ∧ (decode cL_law 825 = .ok (.iaload, 1)) ∧ (decode cL_law 826 = .ok (.aload_n 0, 1)) ∧ (decode cL_law 827 = .ok (.iload 4, 2)) ∧ (decode cL_law 829 = .ok (.iconst 2, 1)) ∧ (decode cL_law 830 = .ok (.iadd, 1)) ∧ (decode cL_law 831 = .ok (.iaload, 1)) ∧ (decode cL_law 832 = .ok (.invokevirtual 96, 3)) := by decide +kernel
theorem dL_law_824 : decode cL_law 824 = .ok (.iadd, 1) := dL_law_824_g.1
theorem dL_law_825 : decode cL_law 825 = .ok (.iaload, 1) := dL_law_824_g.2.1
theorem dL_law_826 : decode cL_law 826 = .ok (.aload_n 0, 1) := dL_law_824_g.2.2.1
theorem dL_law_827 : decode cL_law 827 = .ok (.iload 4, 2) := dL_law_824_g.2.2.2.1
theorem dL_law_829 : decode cL_law 829 = .ok (.iconst 2, 1) := dL_law_824_g.2.2.2.2.1
theorem dL_law_830 : decode cL_law 830 = .ok (.iadd, 1) := dL_law_824_g.2.2.2.2.2.1
theorem dL_law_831 : decode cL_law 831 = .ok (.iaload, 1) := dL_law_824_g.2.2.2.2.2.2.1
theorem dL_law_832 : decode cL_law 832 = .ok (.invokevirtual 96, 3) := dL_law_824_g.2.2.2.2.2.2.2
theorem dL_law_835_g : (decode cL_law 835 = .ok (.pop, 1)) ∧ (decode cL_law 836 = .ok (.aload_n 2, 1)) ∧ (decode cL_law 837 = .ok (.aload_n 0, 1)) ∧ (decode cL_law 838 = .ok (.iload 4, 2)) ∧ (decode cL_law 840 = .ok (.iconst 1, 1)) ∧ (decode cL_law 841 = .ok (.iadd, 1)) ∧ (decode cL_law 842 = .ok (.iaload, 1)) ∧ (decode cL_law 843 = .ok (.aload_n 0, 1)) := by decide +kernel
theorem dL_law_835 : decode cL_law 835 = .ok (.pop, 1) := dL_law_835_g.1
theorem dL_law_836 : decode cL_law 836 = .ok (.aload_n 2, 1) := dL_law_835_g.2.1
theorem dL_law_837 : decode cL_law 837 = .ok (.aload_n 0, 1) := dL_law_835_g.2.2.1
theorem dL_law_838 : decode cL_law 838 = .ok (.iload 4, 2) := dL_law_835_g.2.2.2.1
theorem dL_law_840 : decode cL_law 840 = .ok (.iconst 1, 1) := dL_law_835_g.2.2.2.2.1
theorem dL_law_841 : decode cL_law 841 = .ok (.iadd, 1) := dL_law_835_g.2.2.2.2.2.1
theorem dL_law_842 : decode cL_law 842 = .ok (.iaload, 1) := dL_law_835_g.2.2.2.2.2.2.1
theorem dL_law_843 : decode cL_law 843 = .ok (.aload_n 0, 1) := dL_law_835_g.2.2.2.2.2.2.2
theorem dL_law_844_g : (decode cL_law 844 = .ok (.iload 4, 2)) ∧ (decode cL_law 846 = .ok (.iconst 2, 1)) ∧ (decode cL_law 847 = .ok (.iadd, 1)) ∧ (decode cL_law 848 = .ok (.iaload, 1)) ∧ (decode cL_law 849 = .ok (.invokevirtual 99, 3)) ∧ (decode cL_law 852 = .ok (.pop, 1)) ∧ (decode cL_law 853 = .ok (.goto 741, 3)) ∧ (decode cL_law 856 = .ok (.aload_n 1, 1)) := by decide +kernel
theorem dL_law_844 : decode cL_law 844 = .ok (.iload 4, 2) := dL_law_844_g.1
theorem dL_law_846 : decode cL_law 846 = .ok (.iconst 2, 1) := dL_law_844_g.2.1
theorem dL_law_847 : decode cL_law 847 = .ok (.iadd, 1) := dL_law_844_g.2.2.1
theorem dL_law_848 : decode cL_law 848 = .ok (.iaload, 1) := dL_law_844_g.2.2.2.1
theorem dL_law_849 : decode cL_law 849 = .ok (.invokevirtual 99, 3) := dL_law_844_g.2.2.2.2.1
theorem dL_law_852 : decode cL_law 852 = .ok (.pop, 1) := dL_law_844_g.2.2.2.2.2.1
theorem dL_law_853 : decode cL_law 853 = .ok (.goto 741, 3) := dL_law_844_g.2.2.2.2.2.2.1
theorem dL_law_856 : decode cL_law 856 = .ok (.aload_n 1, 1) := dL_law_844_g.2.2.2.2.2.2.2
theorem dL_law_857_g : (decode cL_law 857 = .ok (.aload_n 0, 1)) ∧ (decode cL_law 858 = .ok (.iload 4, 2)) ∧ (decode cL_law 860 = .ok (.iconst 1, 1)) ∧ (decode cL_law 861 = .ok (.iadd, 1)) ∧ (decode cL_law 862 = .ok (.iaload, 1)) ∧ (decode cL_law 863 = .ok (.aload_n 0, 1)) ∧ (decode cL_law 864 = .ok (.iload 4, 2)) ∧ (decode cL_law 866 = .ok (.iconst 2, 1)) := by decide +kernel
theorem dL_law_857 : decode cL_law 857 = .ok (.aload_n 0, 1) := dL_law_857_g.1
theorem dL_law_858 : decode cL_law 858 = .ok (.iload 4, 2) := dL_law_857_g.2.1
theorem dL_law_860 : decode cL_law 860 = .ok (.iconst 1, 1) := dL_law_857_g.2.2.1
theorem dL_law_861 : decode cL_law 861 = .ok (.iadd, 1) := dL_law_857_g.2.2.2.1
theorem dL_law_862 : decode cL_law 862 = .ok (.iaload, 1) := dL_law_857_g.2.2.2.2.1
theorem dL_law_863 : decode cL_law 863 = .ok (.aload_n 0, 1) := dL_law_857_g.2.2.2.2.2.1
theorem dL_law_864 : decode cL_law 864 = .ok (.iload 4, 2) := dL_law_857_g.2.2.2.2.2.2.1
theorem dL_law_866 : decode cL_law 866 = .ok (.iconst 2, 1) := dL_law_857_g.2.2.2.2.2.2.2
theorem dL_law_867_g : (decode cL_law 867 = .ok (.iadd, 1)) ∧ (decode cL_law 868 = .ok (.iaload, 1)) ∧ (decode cL_law 869 = .ok (.aload_n 0, 1)) ∧ (decode cL_law 870 = .ok (.iload 4, 2)) ∧ (decode cL_law 872 = .ok (.iconst 3, 1)) ∧ (decode cL_law 873 = .ok (.iadd, 1)) ∧ (decode cL_law 874 = .ok (.iaload, 1)) ∧ (decode cL_law 875 = .ok (.aload_n 0, 1)) := by decide +kernel
theorem dL_law_867 : decode cL_law 867 = .ok (.iadd, 1) := dL_law_867_g.1
theorem dL_law_868 : decode cL_law 868 = .ok (.iaload, 1) := dL_law_867_g.2.1
theorem dL_law_869 : decode cL_law 869 = .ok (.aload_n 0, 1) := dL_law_867_g.2.2.1
theorem dL_law_870 : decode cL_law 870 = .ok (.iload 4, 2) := dL_law_867_g.2.2.2.1
theorem dL_law_872 : decode cL_law 872 = .ok (.iconst 3, 1) := dL_law_867_g.2.2.2.2.1
theorem dL_law_873 : decode cL_law 873 = .ok (.iadd, 1) := dL_law_867_g.2.2.2.2.2.1
theorem dL_law_874 : decode cL_law 874 = .ok (.iaload, 1) := dL_law_867_g.2.2.2.2.2.2.1
theorem dL_law_875 : decode cL_law 875 = .ok (.aload_n 0, 1) := dL_law_867_g.2.2.2.2.2.2.2
theorem dL_law_876_g : (decode cL_law 876 = .ok (.iload 4, 2)) ∧ (decode cL_law 878 = .ok (.iconst 4, 1)) ∧ (decode cL_law 879 = .ok (.iadd, 1)) ∧ (decode cL_law 880 = .ok (.iaload, 1)) ∧ (decode cL_law 881 = .ok (.invokevirtual 100, 3)) ∧ (decode cL_law 884 = .ok (.pop, 1)) ∧ (decode cL_law 885 = .ok (.aload_n 2, 1)) ∧ (decode cL_law 886 = .ok (.aload_n 0, 1)) := by decide +kernel
theorem dL_law_876 : decode cL_law 876 = .ok (.iload 4, 2) := dL_law_876_g.1
theorem dL_law_878 : decode cL_law 878 = .ok (.iconst 4, 1) := dL_law_876_g.2.1
theorem dL_law_879 : decode cL_law 879 = .ok (.iadd, 1) := dL_law_876_g.2.2.1
theorem dL_law_880 : decode cL_law 880 = .ok (.iaload, 1) := dL_law_876_g.2.2.2.1
theorem dL_law_881 : decode cL_law 881 = .ok (.invokevirtual 100, 3) := dL_law_876_g.2.2.2.2.1
theorem dL_law_884 : decode cL_law 884 = .ok (.pop, 1) := dL_law_876_g.2.2.2.2.2.1
theorem dL_law_885 : decode cL_law 885 = .ok (.aload_n 2, 1) := dL_law_876_g.2.2.2.2.2.2.1
theorem dL_law_886 : decode cL_law 886 = .ok (.aload_n 0, 1) := dL_law_876_g.2.2.2.2.2.2.2
theorem dL_law_887_g : (decode cL_law 887 = .ok (.iload 4, 2)) ∧ (decode cL_law 889 = .ok (.iconst 1, 1)) ∧ (decode cL_law 890 = .ok (.iadd, 1)) ∧ (decode cL_law 891 = .ok (.iaload, 1)) ∧ (decode cL_law 892 = .ok (.aload_n 0, 1)) ∧ (decode cL_law 893 = .ok (.iload 4, 2)) ∧ (decode cL_law 895 = .ok (.iconst 2, 1)) ∧ (decode cL_law 896 = .ok (.iadd, 1)) := by decide +kernel
theorem dL_law_887 : decode cL_law 887 = .ok (.iload 4, 2) := dL_law_887_g.1
theorem dL_law_889 : decode cL_law 889 = .ok (.iconst 1, 1) := dL_law_887_g.2.1
theorem dL_law_890 : decode cL_law 890 = .ok (.iadd, 1) := dL_law_887_g.2.2.1
theorem dL_law_891 : decode cL_law 891 = .ok (.iaload, 1) := dL_law_887_g.2.2.2.1
theorem dL_law_892 : decode cL_law 892 = .ok (.aload_n 0, 1) := dL_law_887_g.2.2.2.2.1
theorem dL_law_893 : decode cL_law 893 = .ok (.iload 4, 2) := dL_law_887_g.2.2.2.2.2.1
theorem dL_law_895 : decode cL_law 895 = .ok (.iconst 2, 1) := dL_law_887_g.2.2.2.2.2.2.1
theorem dL_law_896 : decode cL_law 896 = .ok (.iadd, 1) := dL_law_887_g.2.2.2.2.2.2.2
theorem dL_law_897_g : (decode cL_law 897 = .ok (.iaload, 1)) ∧ (decode cL_law 898 = .ok (.aload_n 0, 1)) ∧ (decode cL_law 899 = .ok (.iload 4, 2)) ∧ (decode cL_law 901 = .ok (.iconst 3, 1)) ∧ (decode cL_law 902 = .ok (.iadd, 1)) ∧ (decode cL_law 903 = .ok (.iaload, 1)) ∧ (decode cL_law 904 = .ok (.aload_n 0, 1)) ∧ (decode cL_law 905 = .ok (.iload 4, 2)) := by decide +kernel
theorem dL_law_897 : decode cL_law 897 = .ok (.iaload, 1) := dL_law_897_g.1
theorem dL_law_898 : decode cL_law 898 = .ok (.aload_n 0, 1) := dL_law_897_g.2.1
theorem dL_law_899 : decode cL_law 899 = .ok (.iload 4, 2) := dL_law_897_g.2.2.1
theorem dL_law_901 : decode cL_law 901 = .ok (.iconst 3, 1) := dL_law_897_g.2.2.2.1
theorem dL_law_902 : decode cL_law 902 = .ok (.iadd, 1) := dL_law_897_g.2.2.2.2.1
theorem dL_law_903 : decode cL_law 903 = .ok (.iaload, 1) := dL_law_897_g.2.2.2.2.2.1
theorem dL_law_904 : decode cL_law 904 = .ok (.aload_n 0, 1) := dL_law_897_g.2.2.2.2.2.2.1
theorem dL_law_905 : decode cL_law 905 = .ok (.iload 4, 2) := dL_law_897_g.2.2.2.2.2.2.2
theorem dL_law_907_g : (decode cL_law 907 = .ok (.iconst 4, 1)) ∧ (decode cL_law 908 = .ok (.iadd, 1)) ∧ (decode cL_law 909 = .ok (.iaload, 1)) ∧ (decode cL_law 910 = .ok (.invokevirtual 104, 3)) ∧ (decode cL_law 913 = .ok (.pop, 1)) ∧ (decode cL_law 914 = .ok (.goto 680, 3)) ∧ (decode cL_law 917 = .ok (.aload_n 1, 1)) ∧ (decode cL_law 918 = .ok (.aload_n 0, 1)) := by decide +kernel
theorem dL_law_907 : decode cL_law 907 = .ok (.iconst 4, 1) := dL_law_907_g.1
theorem dL_law_908 : decode cL_law 908 = .ok (.iadd, 1) := dL_law_907_g.2.1
theorem dL_law_909 : decode cL_law 909 = .ok (.iaload, 1) := dL_law_907_g.2.2.1
theorem dL_law_910 : decode cL_law 910 = .ok (.invokevirtual 104, 3) := dL_law_907_g.2.2.2.1
theorem dL_law_913 : decode cL_law 913 = .ok (.pop, 1) := dL_law_907_g.2.2.2.2.1
theorem dL_law_914 : decode cL_law 914 = .ok (.goto 680, 3) := dL_law_907_g.2.2.2.2.2.1
theorem dL_law_917 : decode cL_law 917 = .ok (.aload_n 1, 1) := dL_law_907_g.2.2.2.2.2.2.1
theorem dL_law_918 : decode cL_law 918 = .ok (.aload_n 0, 1) := dL_law_907_g.2.2.2.2.2.2.2
theorem dL_law_919_g : (decode cL_law 919 = .ok (.iload 4, 2)) ∧ (decode cL_law 921 = .ok (.iconst 1, 1)) ∧ (decode cL_law 922 = .ok (.iadd, 1)) ∧ (decode cL_law 923 = .ok (.iaload, 1)) ∧ (decode cL_law 924 = .ok (.aload_n 0, 1)) ∧ (decode cL_law 925 = .ok (.iload 4, 2)) ∧ (decode cL_law 927 = .ok (.iconst 2, 1)) ∧ (decode cL_law 928 = .ok (.iadd, 1)) := by decide +kernel
theorem dL_law_919 : decode cL_law 919 = .ok (.iload 4, 2) := dL_law_919_g.1
theorem dL_law_921 : decode cL_law 921 = .ok (.iconst 1, 1) := dL_law_919_g.2.1
theorem dL_law_922 : decode cL_law 922 = .ok (.iadd, 1) := dL_law_919_g.2.2.1
theorem dL_law_923 : decode cL_law 923 = .ok (.iaload, 1) := dL_law_919_g.2.2.2.1
theorem dL_law_924 : decode cL_law 924 = .ok (.aload_n 0, 1) := dL_law_919_g.2.2.2.2.1
theorem dL_law_925 : decode cL_law 925 = .ok (.iload 4, 2) := dL_law_919_g.2.2.2.2.2.1
theorem dL_law_927 : decode cL_law 927 = .ok (.iconst 2, 1) := dL_law_919_g.2.2.2.2.2.2.1
theorem dL_law_928 : decode cL_law 928 = .ok (.iadd, 1) := dL_law_919_g.2.2.2.2.2.2.2
theorem dL_law_929_g : (decode cL_law 929 = .ok (.iaload, 1)) ∧ (decode cL_law 930 = .ok (.i2l, 1)) ∧ (decode cL_law 931 = .ok (.bipush 32, 2)) ∧ (decode cL_law 933 = .ok (.lshl, 1)) ∧ (decode cL_law 934 = .ok (.aload_n 0, 1)) ∧ (decode cL_law 935 = .ok (.iload 4, 2)) ∧ (decode cL_law 937 = .ok (.iconst 3, 1)) ∧ (decode cL_law 938 = .ok (.iadd, 1)) := by decide +kernel
theorem dL_law_929 : decode cL_law 929 = .ok (.iaload, 1) := dL_law_929_g.1
theorem dL_law_930 : decode cL_law 930 = .ok (.i2l, 1) := dL_law_929_g.2.1
theorem dL_law_931 : decode cL_law 931 = .ok (.bipush 32, 2) := dL_law_929_g.2.2.1
theorem dL_law_933 : decode cL_law 933 = .ok (.lshl, 1) := dL_law_929_g.2.2.2.1
theorem dL_law_934 : decode cL_law 934 = .ok (.aload_n 0, 1) := dL_law_929_g.2.2.2.2.1
theorem dL_law_935 : decode cL_law 935 = .ok (.iload 4, 2) := dL_law_929_g.2.2.2.2.2.1
theorem dL_law_937 : decode cL_law 937 = .ok (.iconst 3, 1) := dL_law_929_g.2.2.2.2.2.2.1
theorem dL_law_938 : decode cL_law 938 = .ok (.iadd, 1) := dL_law_929_g.2.2.2.2.2.2.2
theorem dL_law_939_g : (decode cL_law 939 = .ok (.iaload, 1)) ∧ (decode cL_law 940 = .ok (.i2l, 1)) ∧ (decode cL_law 941 = .ok (.ldc2_w 105, 3)) ∧ (decode cL_law 944 = .ok (.land, 1)) ∧ (decode cL_law 945 = .ok (.lor, 1)) ∧ (decode cL_law 946 = .ok (.aload_n 0, 1)) ∧ (decode cL_law 947 = .ok (.iload 4, 2)) ∧ (decode cL_law 949 = .ok (.iconst 4, 1)) := by decide +kernel
theorem dL_law_939 : decode cL_law 939 = .ok (.iaload, 1) := dL_law_939_g.1
theorem dL_law_940 : decode cL_law 940 = .ok (.i2l, 1) := dL_law_939_g.2.1
theorem dL_law_941 : decode cL_law 941 = .ok (.ldc2_w 105, 3) := dL_law_939_g.2.2.1
theorem dL_law_944 : decode cL_law 944 = .ok (.land, 1) := dL_law_939_g.2.2.2.1
theorem dL_law_945 : decode cL_law 945 = .ok (.lor, 1) := dL_law_939_g.2.2.2.2.1
theorem dL_law_946 : decode cL_law 946 = .ok (.aload_n 0, 1) := dL_law_939_g.2.2.2.2.2.1
theorem dL_law_947 : decode cL_law 947 = .ok (.iload 4, 2) := dL_law_939_g.2.2.2.2.2.2.1
theorem dL_law_949 : decode cL_law 949 = .ok (.iconst 4, 1) := dL_law_939_g.2.2.2.2.2.2.2
theorem dL_law_950_g : (decode cL_law 950 = .ok (.iadd, 1)) ∧ (decode cL_law 951 = .ok (.iaload, 1)) ∧ (decode cL_law 952 = .ok (.invokevirtual 107, 3)) ∧ (decode cL_law 955 = .ok (.pop, 1)) ∧ (decode cL_law 956 = .ok (.aload_n 2, 1)) ∧ (decode cL_law 957 = .ok (.aload_n 0, 1)) ∧ (decode cL_law 958 = .ok (.iload 4, 2)) ∧ (decode cL_law 960 = .ok (.iconst 1, 1)) := by decide +kernel
theorem dL_law_950 : decode cL_law 950 = .ok (.iadd, 1) := dL_law_950_g.1
theorem dL_law_951 : decode cL_law 951 = .ok (.iaload, 1) := dL_law_950_g.2.1
theorem dL_law_952 : decode cL_law 952 = .ok (.invokevirtual 107, 3) := dL_law_950_g.2.2.1
theorem dL_law_955 : decode cL_law 955 = .ok (.pop, 1) := dL_law_950_g.2.2.2.1
theorem dL_law_956 : decode cL_law 956 = .ok (.aload_n 2, 1) := dL_law_950_g.2.2.2.2.1
theorem dL_law_957 : decode cL_law 957 = .ok (.aload_n 0, 1) := dL_law_950_g.2.2.2.2.2.1
theorem dL_law_958 : decode cL_law 958 = .ok (.iload 4, 2) := dL_law_950_g.2.2.2.2.2.2.1
theorem dL_law_960 : decode cL_law 960 = .ok (.iconst 1, 1) := dL_law_950_g.2.2.2.2.2.2.2
theorem dL_law_961_g : (decode cL_law 961 = .ok (.iadd, 1)) ∧ (decode cL_law 962 = .ok (.iaload, 1)) ∧ (decode cL_law 963 = .ok (.aload_n 0, 1)) ∧ (decode cL_law 964 = .ok (.iload 4, 2)) ∧ (decode cL_law 966 = .ok (.iconst 2, 1)) ∧ (decode cL_law 967 = .ok (.iadd, 1)) := by decide +kernel
theorem dL_law_961 : decode cL_law 961 = .ok (.iadd, 1) := dL_law_961_g.1
theorem dL_law_962 : decode cL_law 962 = .ok (.iaload, 1) := dL_law_961_g.2.1
theorem dL_law_963 : decode cL_law 963 = .ok (.aload_n 0, 1) := dL_law_961_g.2.2.1
theorem dL_law_964 : decode cL_law 964 = .ok (.iload 4, 2) := dL_law_961_g.2.2.2.1
theorem dL_law_966 : decode cL_law 966 = .ok (.iconst 2, 1) := dL_law_961_g.2.2.2.2.1
theorem dL_law_967 : decode cL_law 967 = .ok (.iadd, 1) := dL_law_961_g.2.2.2.2.2

