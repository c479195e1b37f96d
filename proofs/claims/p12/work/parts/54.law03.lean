theorem dL_law_768_g : (decode cL_law 768 = .ok (.aload_n 0, 1)) ∧ (decode cL_law 769 = .ok (.iload 4, 2)) ∧ (decode cL_law 771 = .ok (.iconst 2, 1)) ∧ (decode cL_law 772 = .ok (.iadd, 1)) ∧ (decode cL_law 773 = .ok (.iaload, 1)) ∧ (decode cL_law 774 = .ok (.invokevirtual 91, 3)) ∧ (decode cL_law 777 = .ok (.pop, 1)) ∧ (decode cL_law 778 = .ok (.goto 815, 3)) := by decide +kernel
theorem dL_law_768 : decode cL_law 768 = .ok (.aload_n 0, 1) := dL_law_768_g.1
theorem dL_law_769 : decode cL_law 769 = .ok (.iload 4, 2) := dL_law_768_g.2.1
theorem dL_law_771 : decode cL_law 771 = .ok (.iconst 2, 1) := dL_law_768_g.2.2.1
theorem dL_law_772 : decode cL_law 772 = .ok (.iadd, 1) := dL_law_768_g.2.2.2.1
theorem dL_law_773 : decode cL_law 773 = .ok (.iaload, 1) := dL_law_768_g.2.2.2.2.1
theorem dL_law_774 : decode cL_law 774 = .ok (.invokevirtual 91, 3) := dL_law_768_g.2.2.2.2.2.1
theorem dL_law_777 : decode cL_law 777 = .ok (.pop, 1) := dL_law_768_g.2.2.2.2.2.2.1
theorem dL_law_778 : decode cL_law 778 = .ok (.goto 815, 3) := dL_law_768_g.2.2.2.2.2.2.2
theorem dL_law_781_g : (decode cL_law 781 = .ok (.aload_n 1, 1)) ∧ (decode cL_law 782 = .ok (.aload_n 0, 1)) ∧ (decode cL_law 783 = .ok (.iload 4, 2)) ∧ (decode cL_law 785 = .ok (.iconst 1, 1)) ∧ (decode cL_law 786 = .ok (.iadd, 1)) ∧ (decode cL_law 787 = .ok (.iaload, 1)) ∧ (decode cL_law 788 = .ok (.aload_n 0, 1)) ∧ (decode cL_law 789 = .ok (.iload 4, 2)) := by decide +kernel
theorem dL_law_781 : decode cL_law 781 = .ok (.aload_n 1, 1) := dL_law_781_g.1
theorem dL_law_782 : decode cL_law 782 = .ok (.aload_n 0, 1) := dL_law_781_g.2.1
theorem dL_law_783 : decode cL_law 783 = .ok (.iload 4, 2) := dL_law_781_g.2.2.1
theorem dL_law_785 : decode cL_law 785 = .ok (.iconst 1, 1) := dL_law_781_g.2.2.2.1
theorem dL_law_786 : decode cL_law 786 = .ok (.iadd, 1) := dL_law_781_g.2.2.2.2.1
theorem dL_law_787 : decode cL_law 787 = .ok (.iaload, 1) := dL_law_781_g.2.2.2.2.2.1
theorem dL_law_788 : decode cL_law 788 = .ok (.aload_n 0, 1) := dL_law_781_g.2.2.2.2.2.2.1
theorem dL_law_789 : decode cL_law 789 = .ok (.iload 4, 2) := dL_law_781_g.2.2.2.2.2.2.2
theorem dL_law_791_g : (decode cL_law 791 = .ok (.iconst 2, 1)) ∧ (decode cL_law 792 = .ok (.iadd, 1)) ∧ (decode cL_law 793 = .ok (.iaload, 1)) ∧ (decode cL_law 794 = .ok (.invokevirtual 92, 3)) ∧ (decode cL_law 797 = .ok (.pop, 1)) ∧ (decode cL_law 798 = .ok (.aload_n 2, 1)) ∧ (decode cL_law 799 = .ok (.aload_n 0, 1)) ∧ (decode cL_law 800 = .ok (.iload 4, 2)) := by decide +kernel
theorem dL_law_791 : decode cL_law 791 = .ok (.iconst 2, 1) := dL_law_791_g.1
theorem dL_law_792 : decode cL_law 792 = .ok (.iadd, 1) := dL_law_791_g.2.1
theorem dL_law_793 : decode cL_law 793 = .ok (.iaload, 1) := dL_law_791_g.2.2.1
theorem dL_law_794 : decode cL_law 794 = .ok (.invokevirtual 92, 3) := dL_law_791_g.2.2.2.1
theorem dL_law_797 : decode cL_law 797 = .ok (.pop, 1) := dL_law_791_g.2.2.2.2.1
theorem dL_law_798 : decode cL_law 798 = .ok (.aload_n 2, 1) := dL_law_791_g.2.2.2.2.2.1
theorem dL_law_799 : decode cL_law 799 = .ok (.aload_n 0, 1) := dL_law_791_g.2.2.2.2.2.2.1
theorem dL_law_800 : decode cL_law 800 = .ok (.iload 4, 2) := dL_law_791_g.2.2.2.2.2.2.2
theorem dL_law_802_g : (decode cL_law 802 = .ok (.iconst 1, 1)) ∧ (decode cL_law 803 = .ok (.iadd, 1)) ∧ (decode cL_law 804 = .ok (.iaload, 1)) ∧ (decode cL_law 805 = .ok (.aload_n 0, 1)) ∧ (decode cL_law 806 = .ok (.iload 4, 2)) ∧ (decode cL_law 808 = .ok (.iconst 2, 1)) ∧ (decode cL_law 809 = .ok (.iadd, 1)) ∧ (decode cL_law 810 = .ok (.iaload, 1)) := by decide +kernel
theorem dL_law_802 : decode cL_law 802 = .ok (.iconst 1, 1) := dL_law_802_g.1
theorem dL_law_803 : decode cL_law 803 = .ok (.iadd, 1) := dL_law_802_g.2.1
theorem dL_law_804 : decode cL_law 804 = .ok (.iaload, 1) := dL_law_802_g.2.2.1
theorem dL_law_805 : decode cL_law 805 = .ok (.aload_n 0, 1) := dL_law_802_g.2.2.2.1
theorem dL_law_806 : decode cL_law 806 = .ok (.iload 4, 2) := dL_law_802_g.2.2.2.2.1
theorem dL_law_808 : decode cL_law 808 = .ok (.iconst 2, 1) := dL_law_802_g.2.2.2.2.2.1
theorem dL_law_809 : decode cL_law 809 = .ok (.iadd, 1) := dL_law_802_g.2.2.2.2.2.2.1
theorem dL_law_810 : decode cL_law 810 = .ok (.iaload, 1) := dL_law_802_g.2.2.2.2.2.2.2
theorem dL_law_811_g : (decode cL_law 811 = .ok (.invokevirtual 95, 3)) ∧ (decode cL_law 814 = .ok (.pop, 1)) ∧ (decode cL_law 815 = .ok (.goto 778, 3)) ∧ (decode cL_law 818 = .ok (.aload_n 1, 1)) ∧ (decode cL_law 819 = .ok (.aload_n 0, 1)) ∧ (decode cL_law 820 = .ok (.iload 4, 2)) ∧ (decode cL_law 822 = .ok (.iconst 1, 1)) ∧ (decode cL_law 823 = .ok (.iadd, 1)) := by decide +kernel
theorem dL_law_811 : decode cL_law 811 = .ok (.invokevirtual 95, 3) := dL_law_811_g.1
theorem dL_law_814 : decode cL_law 814 = .ok (.pop, 1) := dL_law_811_g.2.1
theorem dL_law_815 : decode cL_law 815 = .ok (.goto 778, 3) := dL_law_811_g.2.2.1
theorem dL_law_818 : decode cL_law 818 = .ok (.aload_n 1, 1) := dL_law_811_g.2.2.2.1
theorem dL_law_819 : decode cL_law 819 = .ok (.aload_n 0, 1) := dL_law_811_g.2.2.2.2.1
theorem dL_law_820 : decode cL_law 820 = .ok (.iload 4, 2) := dL_law_811_g.2.2.2.2.2.1
theorem dL_law_822 : decode cL_law 822 = .ok (.iconst 1, 1) := dL_law_811_g.2.2.2.2.2.2.1
theorem dL_law_823 : decode cL_law 823 = .ok (.iadd, 1) := dL_law_811_g.2.2.2.2.2.2.2
theorem dL_law_824_g : (decode cL_law 824 = .ok (.iaload, 1)) ∧ (decode cL_law 825 = .ok (.aload_n 0, 1)) ∧ (decode cL_law 826 = .ok (.iload 4, 2)) ∧ (decode cL_law 828 = .ok (.iconst 2, 1)) ∧ (decode cL_law 829 = .ok (.iadd, 1)) ∧ (decode cL_law 830 = .ok (.iaload, 1)) ∧ (decode cL_law 831 = .ok (.invokevirtual 96, 3)) ∧ (decode cL_law 834 = .ok (.pop, 1)) := by decide +kernel
theorem dL_law_824 : decode cL_law 824 = .ok (.iaload, 1) := dL_law_824_g.1
theorem dL_law_825 : decode cL_law 825 = .ok (.aload_n 0, 1) := dL_law_824_g.2.1
theorem dL_law_826 : decode cL_law 826 = .ok (.iload 4, 2) := dL_law_824_g.2.2.1
theorem dL_law_828 : decode cL_law 828 = .ok (.iconst 2, 1) := dL_law_824_g.2.2.2.1
theorem dL_law_829 : decode cL_law 829 = .ok (.iadd, 1) := dL_law_824_g.2.2.2.2.1
theorem dL_law_830 : decode cL_law 830 = .ok (.iaload, 1) := dL_law_824_g.2.2.2.2.2.1
theorem dL_law_831 : decode cL_law 831 = .ok (.invokevirtual 96, 3) := dL_law_824_g.2.2.2.2.2.2.1
theorem dL_law_834 : decode cL_law 834 = .ok (.pop, 1) := dL_law_824_g.2.2.2.2.2.2.2
theorem dL_law_835_g : (decode cL_law 835 = .ok (.aload_n 2, 1)) ∧ (decode cL_law 836 = .ok (.aload_n 0, 1)) ∧ (decode cL_law 837 = .ok (.iload 4, 2)) ∧ (decode cL_law 839 = .ok (.iconst 1, 1)) ∧ (decode cL_law 840 = .ok (.iadd, 1)) ∧ (decode cL_law 841 = .ok (.iaload, 1)) ∧ (decode cL_law 842 = .ok (.aload_n 0, 1)) ∧ (decode cL_law 843 = .ok (.iload 4, 2)) := by decide +kernel
theorem dL_law_835 : decode cL_law 835 = .ok (.aload_n 2, 1) := dL_law_835_g.1
theorem dL_law_836 : decode cL_law 836 = .ok (.aload_n 0, 1) := dL_law_835_g.2.1
theorem dL_law_837 : decode cL_law 837 = .ok (.iload 4, 2) := dL_law_835_g.2.2.1
theorem dL_law_839 : decode cL_law 839 = .ok (.iconst 1, 1) := dL_law_835_g.2.2.2.1
theorem dL_law_840 : decode cL_law 840 = .ok (.iadd, 1) := dL_law_835_g.2.2.2.2.1
theorem dL_law_841 : decode cL_law 841 = .ok (.iaload, 1) := dL_law_835_g.2.2.2.2.2.1
theorem dL_law_842 : decode cL_law 842 = .ok (.aload_n 0, 1) := dL_law_835_g.2.2.2.2.2.2.1
theorem dL_law_843 : decode cL_law 843 = .ok (.iload 4, 2) := dL_law_835_g.2.2.2.2.2.2.2
theorem dL_law_845_g : (decode cL_law 845 = .ok (.iconst 2, 1)) ∧ (decode cL_law 846 = .ok (.iadd, 1)) ∧ (decode cL_law 847 = .ok (.iaload, 1)) ∧ (decode cL_law 848 = .ok (.invokevirtual 99, 3)) ∧ (decode cL_law 851 = .ok (.pop, 1)) ∧ (decode cL_law 852 = .ok (.goto 741, 3)) ∧ (decode cL_law 855 = .ok (.aload_n 1, 1)) ∧ (decode cL_law 856 = .ok (.aload_n 0, 1)) := by decide +kernel
theorem dL_law_845 : decode cL_law 845 = .ok (.iconst 2, 1) := dL_law_845_g.1
theorem dL_law_846 : decode cL_law 846 = .ok (.iadd, 1) := dL_law_845_g.2.1
theorem dL_law_847 : decode cL_law 847 = .ok (.iaload, 1) := dL_law_845_g.2.2.1
theorem dL_law_848 : decode cL_law 848 = .ok (.invokevirtual 99, 3) := dL_law_845_g.2.2.2.1
theorem dL_law_851 : decode cL_law 851 = .ok (.pop, 1) := dL_law_845_g.2.2.2.2.1
theorem dL_law_852 : decode cL_law 852 = .ok (.goto 741, 3) := dL_law_845_g.2.2.2.2.2.1
theorem dL_law_855 : decode cL_law 855 = .ok (.aload_n 1, 1) := dL_law_845_g.2.2.2.2.2.2.1
theorem dL_law_856 : decode cL_law 856 = .ok (.aload_n 0, 1) := dL_law_845_g.2.2.2.2.2.2.2
theorem dL_law_857_g : (decode cL_law 857 = .ok (.iload 4, 2)) ∧ (decode cL_law 859 = .ok (.iconst 1, 1)) ∧ (decode cL_law 860 = .ok (.iadd, 1)) ∧ (decode cL_law 861 = .ok (.iaload, 1)) ∧ (decode cL_law 862 = .ok (.aload_n 0, 1)) ∧ (decode cL_law 863 = .ok (.iload 4, 2)) ∧ (decode cL_law 865 = .ok (.iconst 2, 1)) ∧ (decode cL_law 866 = .ok (.iadd, 1)) := by decide +kernel
theorem dL_law_857 : decode cL_law 857 = .ok (.iload 4, 2) := dL_law_857_g.1
theorem dL_law_859 : decode cL_law 859 = .ok (.iconst 1, 1) := dL_law_857_g.2.1
theorem dL_law_860 : decode cL_law 860 = .ok (.iadd, 1) := dL_law_857_g.2.2.1
theorem dL_law_861 : decode cL_law 861 = .ok (.iaload, 1) := dL_law_857_g.2.2.2.1
theorem dL_law_862 : decode cL_law 862 = .ok (.aload_n 0, 1) := dL_law_857_g.2.2.2.2.1
theorem dL_law_863 : decode cL_law 863 = .ok (.iload 4, 2) := dL_law_857_g.2.2.2.2.2.1
theorem dL_law_865 : decode cL_law 865 = .ok (.iconst 2, 1) := dL_law_857_g.2.2.2.2.2.2.1
theorem dL_law_866 : decode cL_law 866 = .ok (.iadd, 1) := dL_law_857_g.2.2.2.2.2.2.2
theorem dL_law_867_g : (decode cL_law 867 = .ok (.iaload, 1)) ∧ (decode cL_law 868 = .ok (.aload_n 0, 1)) ∧ (decode cL_law 869 = .ok (.iload 4, 2)) ∧ (decode cL_law 871 = .ok (.iconst 3, 1)) ∧ (decode cL_law 872 = .ok (.iadd, 1)) ∧ (decode cL_law 873 = .ok (.iaload, 1)) ∧ (decode cL_law 874 = .ok (.aload_n 0, 1)) ∧ (decode cL_law 875 = .ok (.iload 4, 2)) := by decide +kernel
theorem dL_law_867 : decode cL_law 867 = .ok (.iaload, 1) := dL_law_867_g.1
theorem dL_law_868 : decode cL_law 868 = .ok (.aload_n 0, 1) := dL_law_867_g.2.1
theorem dL_law_869 : decode cL_law 869 = .ok (.iload 4, 2) := dL_law_867_g.2.2.1
theorem dL_law_871 : decode cL_law 871 = .ok (.iconst 3, 1) := dL_law_867_g.2.2.2.1
theorem dL_law_872 : decode cL_law 872 = .ok (.iadd, 1) := dL_law_867_g.2.2.2.2.1
theorem dL_law_873 : decode cL_law 873 = .ok (.iaload, 1) := dL_law_867_g.2.2.2.2.2.1
theorem dL_law_874 : decode cL_law 874 = .ok (.aload_n 0, 1) := dL_law_867_g.2.2.2.2.2.2.1
theorem dL_law_875 : decode cL_law 875 = .ok (.iload 4, 2) := dL_law_867_g.2.2.2.2.2.2.2
theorem dL_law_877_g : (decode cL_law 877 = .ok (.iconst 4, 1)) ∧ (decode cL_law 878 = .ok (.iadd, 1)) ∧ (decode cL_law 879 = .ok (.iaload, 1)) ∧ (decode cL_law 880 = .ok (.invokevirtual 100, 3)) ∧ (decode cL_law 883 = .ok (.pop, 1)) ∧ (decode cL_law 884 = .ok (.aload_n 2, 1)) ∧ (decode cL_law 885 = .ok (.aload_n 0, 1)) ∧ (decode cL_law 886 = .ok (.iload 4, 2)) := by decide +kernel
theorem dL_law_877 : decode cL_law 877 = .ok (.iconst 4, 1) := dL_law_877_g.1
theorem dL_law_878 : decode cL_law 878 = .ok (.iadd, 1) := dL_law_877_g.2.1
theorem dL_law_879 : decode cL_law 879 = .ok (.iaload, 1) := dL_law_877_g.2.2.1
theorem dL_law_880 : decode cL_law 880 = .ok (.invokevirtual 100, 3) := dL_law_877_g.2.2.2.1
theorem dL_law_883 : decode cL_law 883 = .ok (.pop, 1) := dL_law_877_g.2.2.2.2.1
theorem dL_law_884 : decode cL_law 884 = .ok (.aload_n 2, 1) := dL_law_877_g.2.2.2.2.2.1
theorem dL_law_885 : decode cL_law 885 = .ok (.aload_n 0, 1) := dL_law_877_g.2.2.2.2.2.2.1
theorem dL_law_886 : decode cL_law 886 = .ok (.iload 4, 2) := dL_law_877_g.2.2.2.2.2.2.2
theorem dL_law_888_g : (decode cL_law 888 = .ok (.iconst 1, 1)) ∧ (decode cL_law 889 = .ok (.iadd, 1)) ∧ (decode cL_law 890 = .ok (.iaload, 1)) ∧ (decode cL_law 891 = .ok (.aload_n 0, 1)) ∧ (decode cL_law 892 = .ok (.iload 4, 2)) ∧ (decode cL_law 894 = .ok (.iconst 2, 1)) ∧ (decode cL_law 895 = .ok (.iadd, 1)) ∧ (decode cL_law 896 = .ok (.iaload, 1)) := by decide +kernel
theorem dL_law_888 : decode cL_law 888 = .ok (.iconst 1, 1) := dL_law_888_g.1
theorem dL_law_889 : decode cL_law 889 = .ok (.iadd, 1) := dL_law_888_g.2.1
theorem dL_law_890 : decode cL_law 890 = .ok (.iaload, 1) := dL_law_888_g.2.2.1
theorem dL_law_891 : decode cL_law 891 = .ok (.aload_n 0, 1) := dL_law_888_g.2.2.2.1
theorem dL_law_892 : decode cL_law 892 = .ok (.iload 4, 2) := dL_law_888_g.2.2.2.2.1
theorem dL_law_894 : decode cL_law 894 = .ok (.iconst 2, 1) := dL_law_888_g.2.2.2.2.2.1
theorem dL_law_895 : decode cL_law 895 = .ok (.iadd, 1) := dL_law_888_g.2.2.2.2.2.2.1
theorem dL_law_896 : decode cL_law 896 = .ok (.iaload, 1) := dL_law_888_g.2.2.2.2.2.2.2
theorem dL_law_897_g : (decode cL_law 897 = .ok (.aload_n 0, 1)) ∧ (decode cL_law 898 = .ok (.iload 4, 2)) ∧ (decode cL_law 900 = .ok (.iconst 3, 1)) ∧ (decode cL_law 901 = .ok (.iadd, 1)) ∧ (decode cL_law 902 = .ok (.iaload, 1)) ∧ (decode cL_law 903 = .ok (.aload_n 0, 1)) ∧ (decode cL_law 904 = .ok (.iload 4, 2)) ∧ (decode cL_law 906 = .ok (.iconst 4, 1)) := by decide +kernel
theorem dL_law_897 : decode cL_law 897 = .ok (.aload_n 0, 1) := dL_law_897_g.1
theorem dL_law_898 : decode cL_law 898 = .ok (.iload 4, 2) := dL_law_897_g.2.1
theorem dL_law_900 : decode cL_law 900 = .ok (.iconst 3, 1) := dL_law_897_g.2.2.1
theorem dL_law_901 : decode cL_law 901 = .ok (.iadd, 1) := dL_law_897_g.2.2.2.1
theorem dL_law_902 : decode cL_law 902 = .ok (.iaload, 1) := dL_law_897_g.2.2.2.2.1
theorem dL_law_903 : decode cL_law 903 = .ok (.aload_n 0, 1) := dL_law_897_g.2.2.2.2.2.1
theorem dL_law_904 : decode cL_law 904 = .ok (.iload 4, 2) := dL_law_897_g.2.2.2.2.2.2.1
theorem dL_law_906 : decode cL_law 906 = .ok (.iconst 4, 1) := dL_law_897_g.2.2.2.2.2.2.2
theorem dL_law_907_g : (decode cL_law 907 = .ok (.iadd, 1)) ∧ (decode cL_law 908 = .ok (.iaload, 1)) ∧ (decode cL_law 909 = .ok (.invokevirtual 104, 3)) ∧ (decode cL_law 912 = .ok (.pop, 1)) ∧ (decode cL_law 913 = .ok (.goto 680, 3)) ∧ (decode cL_law 916 = .ok (.aload_n 1, 1)) ∧ (decode cL_law 917 = .ok (.aload_n 0, 1)) ∧ (decode cL_law 918 = .ok (.iload 4, 2)) := by decide +kernel
theorem dL_law_907 : decode cL_law 907 = .ok (.iadd, 1) := dL_law_907_g.1
theorem dL_law_908 : decode cL_law 908 = .ok (.iaload, 1) := dL_law_907_g.2.1
theorem dL_law_909 : decode cL_law 909 = .ok (.invokevirtual 104, 3) := dL_law_907_g.2.2.1
theorem dL_law_912 : decode cL_law 912 = .ok (.pop, 1) := dL_law_907_g.2.2.2.1
theorem dL_law_913 : decode cL_law 913 = .ok (.goto 680, 3) := dL_law_907_g.2.2.2.2.1
theorem dL_law_916 : decode cL_law 916 = .ok (.aload_n 1, 1) := dL_law_907_g.2.2.2.2.2.1
theorem dL_law_917 : decode cL_law 917 = .ok (.aload_n 0, 1) := dL_law_907_g.2.2.2.2.2.2.1
theorem dL_law_918 : decode cL_law 918 = .ok (.iload 4, 2) := dL_law_907_g.2.2.2.2.2.2.2
theorem dL_law_920_g : (decode cL_law 920 = .ok (.iconst 1, 1)) ∧ (decode cL_law 921 = .ok (.iadd, 1)) ∧ (decode cL_law 922 = .ok (.iaload, 1)) ∧ (decode cL_law 923 = .ok (.aload_n 0, 1)) ∧ (decode cL_law 924 = .ok (.iload 4, 2)) ∧ (decode cL_law 926 = .ok (.iconst 2, 1)) ∧ (decode cL_law 927 = .ok (.iadd, 1)) ∧ (decode cL_law 928 = .ok (.iaload, 1)) := by decide +kernel
theorem dL_law_920 : decode cL_law 920 = .ok (.iconst 1, 1) := dL_law_920_g.1
theorem dL_law_921 : decode cL_law 921 = .ok (.iadd, 1) := dL_law_920_g.2.1
theorem dL_law_922 : decode cL_law 922 = .ok (.iaload, 1) := dL_law_920_g.2.2.1
theorem dL_law_923 : decode cL_law 923 = .ok (.aload_n 0, 1) := dL_law_920_g.2.2.2.1
theorem dL_law_924 : decode cL_law 924 = .ok (.iload 4, 2) := dL_law_920_g.2.2.2.2.1
theorem dL_law_926 : decode cL_law 926 = .ok (.iconst 2, 1) := dL_law_920_g.2.2.2.2.2.1
theorem dL_law_927 : decode cL_law 927 = .ok (.iadd, 1) := dL_law_920_g.2.2.2.2.2.2.1
theorem dL_law_928 : decode cL_law 928 = .ok (.iaload, 1) := dL_law_920_g.2.2.2.2.2.2.2
theorem dL_law_929_g : (decode cL_law 929 = .ok (.i2l, 1)) ∧ (decode cL_law 930 = .ok (.bipush 32, 2)) ∧ (decode cL_law 932 = .ok (.lshl, 1)) ∧ (decode cL_law 933 = .ok (.aload_n 0, 1)) ∧ (decode cL_law 934 = .ok (.iload 4, 2)) ∧ (decode cL_law 936 = .ok (.iconst 3, 1)) ∧ (decode cL_law 937 = .ok (.iadd, 1)) ∧ (decode cL_law 938 = .ok (.iaload, 1)) := by decide +kernel
theorem dL_law_929 : decode cL_law 929 = .ok (.i2l, 1) := dL_law_929_g.1
theorem dL_law_930 : decode cL_law 930 = .ok (.bipush 32, 2) := dL_law_929_g.2.1
theorem dL_law_932 : decode cL_law 932 = .ok (.lshl, 1) := dL_law_929_g.2.2.1
theorem dL_law_933 : decode cL_law 933 = .ok (.aload_n 0, 1) := dL_law_929_g.2.2.2.1
theorem dL_law_934 : decode cL_law 934 = .ok (.iload 4, 2) := dL_law_929_g.2.2.2.2.1
theorem dL_law_936 : decode cL_law 936 = .ok (.iconst 3, 1) := dL_law_929_g.2.2.2.2.2.1
theorem dL_law_937 : decode cL_law 937 = .ok (.iadd, 1) := dL_law_929_g.2.2.2.2.2.2.1
theorem dL_law_938 : decode cL_law 938 = .ok (.iaload, 1) := dL_law_929_g.2.2.2.2.2.2.2
theorem dL_law_939_g : (decode cL_law 939 = .ok (.i2l, 1)) ∧ (decode cL_law 940 = .ok (.ldc2_w 105, 3)) ∧ (decode cL_law 943 = .ok (.land, 1)) ∧ (decode cL_law 944 = .ok (.lor, 1)) ∧ (decode cL_law 945 = .ok (.aload_n 0, 1)) ∧ (decode cL_law 946 = .ok (.iload 4, 2)) ∧ (decode cL_law 948 = .ok (.iconst 4, 1)) ∧ (decode cL_law 949 = .ok (.iadd, 1)) := by decide +kernel
theorem dL_law_939 : decode cL_law 939 = .ok (.i2l, 1) := dL_law_939_g.1
theorem dL_law_940 : decode cL_law 940 = .ok (.ldc2_w 105, 3) := dL_law_939_g.2.1
theorem dL_law_943 : decode cL_law 943 = .ok (.land, 1) := dL_law_939_g.2.2.1
theorem dL_law_944 : decode cL_law 944 = .ok (.lor, 1) := dL_law_939_g.2.2.2.1
theorem dL_law_945 : decode cL_law 945 = .ok (.aload_n 0, 1) := dL_law_939_g.2.2.2.2.1
theorem dL_law_946 : decode cL_law 946 = .ok (.iload 4, 2) := dL_law_939_g.2.2.2.2.2.1
theorem dL_law_948 : decode cL_law 948 = .ok (.iconst 4, 1) := dL_law_939_g.2.2.2.2.2.2.1
theorem dL_law_949 : decode cL_law 949 = .ok (.iadd, 1) := dL_law_939_g.2.2.2.2.2.2.2
theorem dL_law_950_g : (decode cL_law 950 = .ok (.iaload, 1)) ∧ (decode cL_law 951 = .ok (.invokevirtual 107, 3)) ∧ (decode cL_law 954 = .ok (.pop, 1)) ∧ (decode cL_law 955 = .ok (.aload_n 2, 1)) ∧ (decode cL_law 956 = .ok (.aload_n 0, 1)) ∧ (decode cL_law 957 = .ok (.iload 4, 2)) ∧ (decode cL_law 959 = .ok (.iconst 1, 1)) ∧ (decode cL_law 960 = .ok (.iadd, 1)) := by decide +kernel
theorem dL_law_950 : decode cL_law 950 = .ok (.iaload, 1) := dL_law_950_g.1
theorem dL_law_951 : decode cL_law 951 = .ok (.invokevirtual 107, 3) := dL_law_950_g.2.1
theorem dL_law_954 : decode cL_law 954 = .ok (.pop, 1) := dL_law_950_g.2.2.1
theorem dL_law_955 : decode cL_law 955 = .ok (.aload_n 2, 1) := dL_law_950_g.2.2.2.1
theorem dL_law_956 : decode cL_law 956 = .ok (.aload_n 0, 1) := dL_law_950_g.2.2.2.2.1
theorem dL_law_957 : decode cL_law 957 = .ok (.iload 4, 2) := dL_law_950_g.2.2.2.2.2.1
theorem dL_law_959 : decode cL_law 959 = .ok (.iconst 1, 1) := dL_law_950_g.2.2.2.2.2.2.1
theorem dL_law_960 : decode cL_law 960 = .ok (.iadd, 1) := dL_law_950_g.2.2.2.2.2.2.2
theorem dL_law_961_g : (decode cL_law 961 = .ok (.iaload, 1)) ∧ (decode cL_law 962 = .ok (.aload_n 0, 1)) ∧ (decode cL_law 963 = .ok (.iload 4, 2)) ∧ (decode cL_law 965 = .ok (.iconst 2, 1)) ∧ (decode cL_law 966 = .ok (.iadd, 1)) ∧ (decode cL_law 967 = .ok (.iaload, 1)) := by decide +kernel
theorem dL_law_961 : decode cL_law 961 = .ok (.iaload, 1) := dL_law_961_g.1
theorem dL_law_962 : decode cL_law 962 = .ok (.aload_n 0, 1) := dL_law_961_g.2.1
theorem dL_law_963 : decode cL_law 963 = .ok (.iload 4, 2) := dL_law_961_g.2.2.1
theorem dL_law_965 : decode cL_law 965 = .ok (.iconst 2, 1) := dL_law_961_g.2.2.2.1
theorem dL_law_966 : decode cL_law 966 = .ok (.iadd, 1) := dL_law_961_g.2.2.2.2.1
theorem dL_law_967 : decode cL_law 967 = .ok (.iaload, 1) := dL_law_961_g.2.2.2.2.2

