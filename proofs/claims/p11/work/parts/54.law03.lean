theorem dL_law_777_g : (decode cL_law 777 = .ok (.iadd, 1)) ∧ (decode cL_law 778 = .ok (.iaload, 1)) ∧ (decode cL_law 779 = .ok (.aload_n 0, 1)) ∧ (decode cL_law 780 = .ok (.iload 4, 2)) ∧ (decode cL_law 782 = .ok (.iconst 2, 1)) ∧ (decode cL_law 783 = .ok (.iadd, 1)) ∧ (decode cL_law 784 = .ok (.iaload, 1)) ∧ (decode cL_law 785 = .ok (.invokevirtual 91, 3)) := by decide +kernel
theorem dL_law_777 : decode cL_law 777 = .ok (.iadd, 1) := dL_law_777_g.1
theorem dL_law_778 : decode cL_law 778 = .ok (.iaload, 1) := dL_law_777_g.2.1
theorem dL_law_779 : decode cL_law 779 = .ok (.aload_n 0, 1) := dL_law_777_g.2.2.1
theorem dL_law_780 : decode cL_law 780 = .ok (.iload 4, 2) := dL_law_777_g.2.2.2.1
theorem dL_law_782 : decode cL_law 782 = .ok (.iconst 2, 1) := dL_law_777_g.2.2.2.2.1
theorem dL_law_783 : decode cL_law 783 = .ok (.iadd, 1) := dL_law_777_g.2.2.2.2.2.1
theorem dL_law_784 : decode cL_law 784 = .ok (.iaload, 1) := dL_law_777_g.2.2.2.2.2.2.1
theorem dL_law_785 : decode cL_law 785 = .ok (.invokevirtual 91, 3) := dL_law_777_g.2.2.2.2.2.2.2
theorem dL_law_788_g : (decode cL_law 788 = .ok (.pop, 1)) ∧ (decode cL_law 789 = .ok (.aload_n 2, 1)) ∧ (decode cL_law 790 = .ok (.aload_n 0, 1)) ∧ (decode cL_law 791 = .ok (.iload 4, 2)) ∧ (decode cL_law 793 = .ok (.iconst 1, 1)) ∧ (decode cL_law 794 = .ok (.iadd, 1)) ∧ (decode cL_law 795 = .ok (.iaload, 1)) ∧ (decode cL_law 796 = .ok (.aload_n 0, 1)) := by decide +kernel
theorem dL_law_788 : decode cL_law 788 = .ok (.pop, 1) := dL_law_788_g.1
theorem dL_law_789 : decode cL_law 789 = .ok (.aload_n 2, 1) := dL_law_788_g.2.1
theorem dL_law_790 : decode cL_law 790 = .ok (.aload_n 0, 1) := dL_law_788_g.2.2.1
theorem dL_law_791 : decode cL_law 791 = .ok (.iload 4, 2) := dL_law_788_g.2.2.2.1
theorem dL_law_793 : decode cL_law 793 = .ok (.iconst 1, 1) := dL_law_788_g.2.2.2.2.1
theorem dL_law_794 : decode cL_law 794 = .ok (.iadd, 1) := dL_law_788_g.2.2.2.2.2.1
theorem dL_law_795 : decode cL_law 795 = .ok (.iaload, 1) := dL_law_788_g.2.2.2.2.2.2.1
theorem dL_law_796 : decode cL_law 796 = .ok (.aload_n 0, 1) := dL_law_788_g.2.2.2.2.2.2.2
theorem dL_law_797_g : (decode cL_law 797 = .ok (.iload 4, 2)) ∧ (decode cL_law 799 = .ok (.iconst 2, 1)) ∧ (decode cL_law 800 = .ok (.iadd, 1)) ∧ (decode cL_law 801 = .ok (.iaload, 1)) ∧ (decode cL_law 802 = .ok (.invokevirtual 94, 3)) ∧ (decode cL_law 805 = .ok (.pop, 1)) ∧ (decode cL_law 806 = .ok (.goto 815, 3)) ∧ (decode cL_law 809 = .ok (.aload_n 1, 1)) := by decide +kernel
theorem dL_law_797 : decode cL_law 797 = .ok (.iload 4, 2) := dL_law_797_g.1
theorem dL_law_799 : decode cL_law 799 = .ok (.iconst 2, 1) := dL_law_797_g.2.1
theorem dL_law_800 : decode cL_law 800 = .ok (.iadd, 1) := dL_law_797_g.2.2.1
theorem dL_law_801 : decode cL_law 801 = .ok (.iaload, 1) := dL_law_797_g.2.2.2.1
theorem dL_law_802 : decode cL_law 802 = .ok (.invokevirtual 94, 3) := dL_law_797_g.2.2.2.2.1
theorem dL_law_805 : decode cL_law 805 = .ok (.pop, 1) := dL_law_797_g.2.2.2.2.2.1
theorem dL_law_806 : decode cL_law 806 = .ok (.goto 815, 3) := dL_law_797_g.2.2.2.2.2.2.1
theorem dL_law_809 : decode cL_law 809 = .ok (.aload_n 1, 1) := dL_law_797_g.2.2.2.2.2.2.2
theorem dL_law_810_g : (decode cL_law 810 = .ok (.aload_n 0, 1)) ∧ (decode cL_law 811 = .ok (.iload 4, 2)) ∧ (decode cL_law 813 = .ok (.iconst 1, 1)) ∧ (decode cL_law 814 = .ok (.iadd, 1)) ∧ (decode cL_law 815 = .ok (.iaload, 1)) ∧ (decode cL_law 816 = .ok (.aload_n 0, 1)) ∧ (decode cL_law 817 = .ok (.iload 4, 2)) ∧ (decode cL_law 819 = .ok (.iconst 2, 1)) := by decide +kernel
theorem dL_law_810 : decode cL_law 810 = .ok (.aload_n 0, 1) := dL_law_810_g.1
theorem dL_law_811 : decode cL_law 811 = .ok (.iload 4, 2) := dL_law_810_g.2.1
theorem dL_law_813 : decode cL_law 813 = .ok (.iconst 1, 1) := dL_law_810_g.2.2.1
theorem dL_law_814 : decode cL_law 814 = .ok (.iadd, 1) := dL_law_810_g.2.2.2.1
theorem dL_law_815 : decode cL_law 815 = .ok (.iaload, 1) := dL_law_810_g.2.2.2.2.1
theorem dL_law_816 : decode cL_law 816 = .ok (.aload_n 0, 1) := dL_law_810_g.2.2.2.2.2.1
theorem dL_law_817 : decode cL_law 817 = .ok (.iload 4, 2) := dL_law_810_g.2.2.2.2.2.2.1
theorem dL_law_819 : decode cL_law 819 = .ok (.iconst 2, 1) := dL_law_810_g.2.2.2.2.2.2.2
theorem dL_law_820_g : (decode cL_law 820 = .ok (.iadd, 1)) ∧ (decode cL_law 821 = .ok (.iaload, 1)) ∧ (decode cL_law 822 = .ok (.invokevirtual 95, 3)) ∧ (decode cL_law 825 = .ok (.pop, 1)) ∧ (decode cL_law 826 = .ok (.aload_n 2, 1)) ∧ (decode cL_law 827 = .ok (.aload_n 0, 1)) ∧ (decode cL_law 828 = .ok (.iload 4, 2)) ∧ (decode cL_law 830 = .ok (.iconst 1, 1)) := by decide +kernel
theorem dL_law_820 : decode cL_law 820 = .ok (.iadd, 1) := dL_law_820_g.1
theorem dL_law_821 : decode cL_law 821 = .ok (.iaload, 1) := dL_law_820_g.2.1
theorem dL_law_822 : decode cL_law 822 = .ok (.invokevirtual 95, 3) := dL_law_820_g.2.2.1
theorem dL_law_825 : decode cL_law 825 = .ok (.pop, 1) := dL_law_820_g.2.2.2.1
theorem dL_law_826 : decode cL_law 826 = .ok (.aload_n 2, 1) := dL_law_820_g.2.2.2.2.1
theorem dL_law_827 : decode cL_law 827 = .ok (.aload_n 0, 1) := dL_law_820_g.2.2.2.2.2.1
theorem dL_law_828 : decode cL_law 828 = .ok (.iload 4, 2) := dL_law_820_g.2.2.2.2.2.2.1
theorem dL_law_830 : decode cL_law 830 = .ok (.iconst 1, 1) := dL_law_820_g.2.2.2.2.2.2.2
theorem dL_law_831_g : (decode cL_law 831 = .ok (.iadd, 1)) ∧ (decode cL_law 832 = .ok (.iaload, 1)) ∧ (decode cL_law 833 = .ok (.aload_n 0, 1)) ∧ (decode cL_law 834 = .ok (.iload 4, 2)) ∧ (decode cL_law 836 = .ok (.iconst 2, 1)) ∧ (decode cL_law 837 = .ok (.iadd, 1)) ∧ (decode cL_law 838 = .ok (.iaload, 1)) ∧ (decode cL_law 839 = .ok (.invokevirtual 98, 3)) := by decide +kernel
theorem dL_law_831 : decode cL_law 831 = .ok (.iadd, 1) := dL_law_831_g.1
theorem dL_law_832 : decode cL_law 832 = .ok (.iaload, 1) := dL_law_831_g.2.1
theorem dL_law_833 : decode cL_law 833 = .ok (.aload_n 0, 1) := dL_law_831_g.2.2.1
theorem dL_law_834 : decode cL_law 834 = .ok (.iload 4, 2) := dL_law_831_g.2.2.2.1
theorem dL_law_836 : decode cL_law 836 = .ok (.iconst 2, 1) := dL_law_831_g.2.2.2.2.1
theorem dL_law_837 : decode cL_law 837 = .ok (.iadd, 1) := dL_law_831_g.2.2.2.2.2.1
theorem dL_law_838 : decode cL_law 838 = .ok (.iaload, 1) := dL_law_831_g.2.2.2.2.2.2.1
theorem dL_law_839 : decode cL_law 839 = .ok (.invokevirtual 98, 3) := dL_law_831_g.2.2.2.2.2.2.2
theorem dL_law_842_g : (decode cL_law 842 = .ok (.pop, 1)) ∧ (decode cL_law 843 = .ok (.goto 778, 3)) ∧ (decode cL_law 846 = .ok (.aload_n 1, 1)) ∧ (decode cL_law 847 = .ok (.aload_n 0, 1)) ∧ (decode cL_law 848 = .ok (.iload 4, 2)) ∧ (decode cL_law 850 = .ok (.iconst 1, 1)) ∧ (decode cL_law 851 = .ok (.iadd, 1)) ∧ (decode cL_law 852 = .ok (.iaload, 1)) := by decide +kernel
theorem dL_law_842 : decode cL_law 842 = .ok (.pop, 1) := dL_law_842_g.1
theorem dL_law_843 : decode cL_law 843 = .ok (.goto 778, 3) := dL_law_842_g.2.1
theorem dL_law_846 : decode cL_law 846 = .ok (.aload_n 1, 1) := dL_law_842_g.2.2.1
theorem dL_law_847 : decode cL_law 847 = .ok (.aload_n 0, 1) := dL_law_842_g.2.2.2.1
theorem dL_law_848 : decode cL_law 848 = .ok (.iload 4, 2) := dL_law_842_g.2.2.2.2.1
theorem dL_law_850 : decode cL_law 850 = .ok (.iconst 1, 1) := dL_law_842_g.2.2.2.2.2.1
theorem dL_law_851 : decode cL_law 851 = .ok (.iadd, 1) := dL_law_842_g.2.2.2.2.2.2.1
theorem dL_law_852 : decode cL_law 852 = .ok (.iaload, 1) := dL_law_842_g.2.2.2.2.2.2.2
theorem dL_law_853_g : (decode cL_law 853 = .ok (.aload_n 0, 1)) ∧ (decode cL_law 854 = .ok (.iload 4, 2)) ∧ (decode cL_law 856 = .ok (.iconst 2, 1)) ∧ (decode cL_law 857 = .ok (.iadd, 1)) ∧ (decode cL_law 858 = .ok (.iaload, 1)) ∧ (decode cL_law 859 = .ok (.invokevirtual 99, 3)) ∧ (decode cL_law 862 = .ok (.pop, 1)) ∧ (decode cL_law 863 = .ok (.aload_n 2, 1)) := by decide +kernel
theorem dL_law_853 : decode cL_law 853 = .ok (.aload_n 0, 1) := dL_law_853_g.1
theorem dL_law_854 : decode cL_law 854 = .ok (.iload 4, 2) := dL_law_853_g.2.1
theorem dL_law_856 : decode cL_law 856 = .ok (.iconst 2, 1) := dL_law_853_g.2.2.1
theorem dL_law_857 : decode cL_law 857 = .ok (.iadd, 1) := dL_law_853_g.2.2.2.1
theorem dL_law_858 : decode cL_law 858 = .ok (.iaload, 1) := dL_law_853_g.2.2.2.2.1
theorem dL_law_859 : decode cL_law 859 = .ok (.invokevirtual 99, 3) := dL_law_853_g.2.2.2.2.2.1
theorem dL_law_862 : decode cL_law 862 = .ok (.pop, 1) := dL_law_853_g.2.2.2.2.2.2.1
theorem dL_law_863 : decode cL_law 863 = .ok (.aload_n 2, 1) := dL_law_853_g.2.2.2.2.2.2.2
theorem dL_law_864_g : (decode cL_law 864 = .ok (.aload_n 0, 1)) ∧ (decode cL_law 865 = .ok (.iload 4, 2)) ∧ (decode cL_law 867 = .ok (.iconst 1, 1)) ∧ (decode cL_law 868 = .ok (.iadd, 1)) ∧ (decode cL_law 869 = .ok (.iaload, 1)) ∧ (decode cL_law 870 = .ok (.aload_n 0, 1)) ∧ (decode cL_law 871 = .ok (.iload 4, 2)) ∧ (decode cL_law 873 = .ok (.iconst 2, 1)) := by decide +kernel
theorem dL_law_864 : decode cL_law 864 = .ok (.aload_n 0, 1) := dL_law_864_g.1
theorem dL_law_865 : decode cL_law 865 = .ok (.iload 4, 2) := dL_law_864_g.2.1
theorem dL_law_867 : decode cL_law 867 = .ok (.iconst 1, 1) := dL_law_864_g.2.2.1
theorem dL_law_868 : decode cL_law 868 = .ok (.iadd, 1) := dL_law_864_g.2.2.2.1
theorem dL_law_869 : decode cL_law 869 = .ok (.iaload, 1) := dL_law_864_g.2.2.2.2.1
theorem dL_law_870 : decode cL_law 870 = .ok (.aload_n 0, 1) := dL_law_864_g.2.2.2.2.2.1
theorem dL_law_871 : decode cL_law 871 = .ok (.iload 4, 2) := dL_law_864_g.2.2.2.2.2.2.1
theorem dL_law_873 : decode cL_law 873 = .ok (.iconst 2, 1) := dL_law_864_g.2.2.2.2.2.2.2
theorem dL_law_874_g : (decode cL_law 874 = .ok (.iadd, 1)) ∧ (decode cL_law 875 = .ok (.iaload, 1)) ∧ (decode cL_law 876 = .ok (.invokevirtual 102, 3)) ∧ (decode cL_law 879 = .ok (.pop, 1)) ∧ (decode cL_law 880 = .ok (.goto 741, 3)) ∧ (decode cL_law 883 = .ok (.aload_n 1, 1)) ∧ (decode cL_law 884 = .ok (.aload_n 0, 1)) ∧ (decode cL_law 885 = .ok (.iload 4, 2)) := by decide +kernel
theorem dL_law_874 : decode cL_law 874 = .ok (.iadd, 1) := dL_law_874_g.1
theorem dL_law_875 : decode cL_law 875 = .ok (.iaload, 1) := dL_law_874_g.2.1
theorem dL_law_876 : decode cL_law 876 = .ok (.invokevirtual 102, 3) := dL_law_874_g.2.2.1
theorem dL_law_879 : decode cL_law 879 = .ok (.pop, 1) := dL_law_874_g.2.2.2.1
theorem dL_law_880 : decode cL_law 880 = .ok (.goto 741, 3) := dL_law_874_g.2.2.2.2.1
theorem dL_law_883 : decode cL_law 883 = .ok (.aload_n 1, 1) := dL_law_874_g.2.2.2.2.2.1
theorem dL_law_884 : decode cL_law 884 = .ok (.aload_n 0, 1) := dL_law_874_g.2.2.2.2.2.2.1
theorem dL_law_885 : decode cL_law 885 = .ok (.iload 4, 2) := dL_law_874_g.2.2.2.2.2.2.2
theorem dL_law_887_g : (decode cL_law 887 = .ok (.iconst 1, 1)) ∧ (decode cL_law 888 = .ok (.iadd, 1)) ∧ (decode cL_law 889 = .ok (.iaload, 1)) ∧ (decode cL_law 890 = .ok (.aload_n 0, 1)) ∧ (decode cL_law 891 = .ok (.iload 4, 2)) ∧ (decode cL_law 893 = .ok (.iconst 2, 1)) ∧ (decode cL_law 894 = .ok (.iadd, 1)) ∧ (decode cL_law 895 = .ok (.iaload, 1)) := by decide +kernel
theorem dL_law_887 : decode cL_law 887 = .ok (.iconst 1, 1) := dL_law_887_g.1
theorem dL_law_888 : decode cL_law 888 = .ok (.iadd, 1) := dL_law_887_g.2.1
theorem dL_law_889 : decode cL_law 889 = .ok (.iaload, 1) := dL_law_887_g.2.2.1
theorem dL_law_890 : decode cL_law 890 = .ok (.aload_n 0, 1) := dL_law_887_g.2.2.2.1
theorem dL_law_891 : decode cL_law 891 = .ok (.iload 4, 2) := dL_law_887_g.2.2.2.2.1
theorem dL_law_893 : decode cL_law 893 = .ok (.iconst 2, 1) := dL_law_887_g.2.2.2.2.2.1
theorem dL_law_894 : decode cL_law 894 = .ok (.iadd, 1) := dL_law_887_g.2.2.2.2.2.2.1
theorem dL_law_895 : decode cL_law 895 = .ok (.iaload, 1) := dL_law_887_g.2.2.2.2.2.2.2
theorem dL_law_896_g : (decode cL_law 896 = .ok (.aload_n 0, 1)) ∧ (decode cL_law 897 = .ok (.iload 4, 2)) ∧ (decode cL_law 899 = .ok (.iconst 3, 1)) ∧ (decode cL_law 900 = .ok (.iadd, 1)) ∧ (decode cL_law 901 = .ok (.iaload, 1)) ∧ (decode cL_law 902 = .ok (.aload_n 0, 1)) ∧ (decode cL_law 903 = .ok (.iload 4, 2)) ∧ (decode cL_law 905 = .ok (.iconst 4, 1)) := by decide +kernel
theorem dL_law_896 : decode cL_law 896 = .ok (.aload_n 0, 1) := dL_law_896_g.1
theorem dL_law_897 : decode cL_law 897 = .ok (.iload 4, 2) := dL_law_896_g.2.1
theorem dL_law_899 : decode cL_law 899 = .ok (.iconst 3, 1) := dL_law_896_g.2.2.1
theorem dL_law_900 : decode cL_law 900 = .ok (.iadd, 1) := dL_law_896_g.2.2.2.1
theorem dL_law_901 : decode cL_law 901 = .ok (.iaload, 1) := dL_law_896_g.2.2.2.2.1
theorem dL_law_902 : decode cL_law 902 = .ok (.aload_n 0, 1) := dL_law_896_g.2.2.2.2.2.1
theorem dL_law_903 : decode cL_law 903 = .ok (.iload 4, 2) := dL_law_896_g.2.2.2.2.2.2.1
theorem dL_law_905 : decode cL_law 905 = .ok (.iconst 4, 1) := dL_law_896_g.2.2.2.2.2.2.2
theorem dL_law_906_g : (decode cL_law 906 = .ok (.iadd, 1)) ∧ (decode cL_law 907 = .ok (.iaload, 1)) ∧ (decode cL_law 908 = .ok (.invokevirtual 103, 3)) ∧ (decode cL_law 911 = .ok (.pop, 1)) ∧ (decode cL_law 912 = .ok (.aload_n 2, 1)) ∧ (decode cL_law 913 = .ok (.aload_n 0, 1)) ∧ (decode cL_law 914 = .ok (.iload 4, 2)) ∧ (decode cL_law 916 = .ok (.iconst 1, 1)) := by decide +kernel
theorem dL_law_906 : decode cL_law 906 = .ok (.iadd, 1) := dL_law_906_g.1
theorem dL_law_907 : decode cL_law 907 = .ok (.iaload, 1) := dL_law_906_g.2.1
theorem dL_law_908 : decode cL_law 908 = .ok (.invokevirtual 103, 3) := dL_law_906_g.2.2.1
theorem dL_law_911 : decode cL_law 911 = .ok (.pop, 1) := dL_law_906_g.2.2.2.1
theorem dL_law_912 : decode cL_law 912 = .ok (.aload_n 2, 1) := dL_law_906_g.2.2.2.2.1
theorem dL_law_913 : decode cL_law 913 = .ok (.aload_n 0, 1) := dL_law_906_g.2.2.2.2.2.1
theorem dL_law_914 : decode cL_law 914 = .ok (.iload 4, 2) := dL_law_906_g.2.2.2.2.2.2.1
theorem dL_law_916 : decode cL_law 916 = .ok (.iconst 1, 1) := dL_law_906_g.2.2.2.2.2.2.2
theorem dL_law_917_g : (decode cL_law 917 = .ok (.iadd, 1)) ∧ (decode cL_law 918 = .ok (.iaload, 1)) ∧ (decode cL_law 919 = .ok (.aload_n 0, 1)) ∧ (decode cL_law 920 = .ok (.iload 4, 2)) ∧ (decode cL_law 922 = .ok (.iconst 2, 1)) ∧ (decode cL_law 923 = .ok (.iadd, 1)) ∧ (decode cL_law 924 = .ok (.iaload, 1)) ∧ (decode cL_law 925 = .ok (.aload_n 0, 1)) := by decide +kernel
theorem dL_law_917 : decode cL_law 917 = .ok (.iadd, 1) := dL_law_917_g.1
theorem dL_law_918 : decode cL_law 918 = .ok (.iaload, 1) := dL_law_917_g.2.1
theorem dL_law_919 : decode cL_law 919 = .ok (.aload_n 0, 1) := dL_law_917_g.2.2.1
theorem dL_law_920 : decode cL_law 920 = .ok (.iload 4, 2) := dL_law_917_g.2.2.2.1
theorem dL_law_922 : decode cL_law 922 = .ok (.iconst 2, 1) := dL_law_917_g.2.2.2.2.1
theorem dL_law_923 : decode cL_law 923 = .ok (.iadd, 1) := dL_law_917_g.2.2.2.2.2.1
theorem dL_law_924 : decode cL_law 924 = .ok (.iaload, 1) := dL_law_917_g.2.2.2.2.2.2.1
theorem dL_law_925 : decode cL_law 925 = .ok (.aload_n 0, 1) := dL_law_917_g.2.2.2.2.2.2.2
theorem dL_law_926_g : (decode cL_law 926 = .ok (.iload 4, 2)) ∧ (decode cL_law 928 = .ok (.iconst 3, 1)) ∧ (decode cL_law 929 = .ok (.iadd, 1)) ∧ (decode cL_law 930 = .ok (.iaload, 1)) ∧ (decode cL_law 931 = .ok (.aload_n 0, 1)) ∧ (decode cL_law 932 = .ok (.iload 4, 2)) ∧ (decode cL_law 934 = .ok (.iconst 4, 1)) ∧ (decode cL_law 935 = .ok (.iadd, 1)) := by decide +kernel
theorem dL_law_926 : decode cL_law 926 = .ok (.iload 4, 2) := dL_law_926_g.1
theorem dL_law_928 : decode cL_law 928 = .ok (.iconst 3, 1) := dL_law_926_g.2.1
theorem dL_law_929 : decode cL_law 929 = .ok (.iadd, 1) := dL_law_926_g.2.2.1
theorem dL_law_930 : decode cL_law 930 = .ok (.iaload, 1) := dL_law_926_g.2.2.2.1
theorem dL_law_931 : decode cL_law 931 = .ok (.aload_n 0, 1) := dL_law_926_g.2.2.2.2.1
theorem dL_law_932 : decode cL_law 932 = .ok (.iload 4, 2) := dL_law_926_g.2.2.2.2.2.1
theorem dL_law_934 : decode cL_law 934 = .ok (.iconst 4, 1) := dL_law_926_g.2.2.2.2.2.2.1
theorem dL_law_935 : decode cL_law 935 = .ok (.iadd, 1) := dL_law_926_g.2.2.2.2.2.2.2
theorem dL_law_936_g : (decode cL_law 936 = .ok (.iaload, 1)) ∧ (decode cL_law 937 = .ok (.invokevirtual 107, 3)) ∧ (decode cL_law 940 = .ok (.pop, 1)) ∧ (decode cL_law 941 = .ok (.goto 680, 3)) ∧ (decode cL_law 944 = .ok (.aload_n 1, 1)) ∧ (decode cL_law 945 = .ok (.aload_n 0, 1)) ∧ (decode cL_law 946 = .ok (.iload 4, 2)) ∧ (decode cL_law 948 = .ok (.iconst 1, 1)) := by decide +kernel
theorem dL_law_936 : decode cL_law 936 = .ok (.iaload, 1) := dL_law_936_g.1
theorem dL_law_937 : decode cL_law 937 = .ok (.invokevirtual 107, 3) := dL_law_936_g.2.1
theorem dL_law_940 : decode cL_law 940 = .ok (.pop, 1) := dL_law_936_g.2.2.1
theorem dL_law_941 : decode cL_law 941 = .ok (.goto 680, 3) := dL_law_936_g.2.2.2.1
theorem dL_law_944 : decode cL_law 944 = .ok (.aload_n 1, 1) := dL_law_936_g.2.2.2.2.1
theorem dL_law_945 : decode cL_law 945 = .ok (.aload_n 0, 1) := dL_law_936_g.2.2.2.2.2.1
theorem dL_law_946 : decode cL_law 946 = .ok (.iload 4, 2) := dL_law_936_g.2.2.2.2.2.2.1
theorem dL_law_948 : decode cL_law 948 = .ok (.iconst 1, 1) := dL_law_936_g.2.2.2.2.2.2.2
theorem dL_law_949_g : (decode cL_law 949 = .ok (.iadd, 1)) ∧ (decode cL_law 950 = .ok (.iaload, 1)) ∧ (decode cL_law 951 = .ok (.aload_n 0, 1)) ∧ (decode cL_law 952 = .ok (.iload 4, 2)) ∧ (decode cL_law 954 = .ok (.iconst 2, 1)) ∧ (decode cL_law 955 = .ok (.iadd, 1)) ∧ (decode cL_law 956 = .ok (.iaload, 1)) ∧ (decode cL_law 957 = .ok (.i2l, 1)) := by decide +kernel
theorem dL_law_949 : decode cL_law 949 = .ok (.iadd, 1) := dL_law_949_g.1
theorem dL_law_950 : decode cL_law 950 = .ok (.iaload, 1) := dL_law_949_g.2.1
theorem dL_law_951 : decode cL_law 951 = .ok (.aload_n 0, 1) := dL_law_949_g.2.2.1
theorem dL_law_952 : decode cL_law 952 = .ok (.iload 4, 2) := dL_law_949_g.2.2.2.1
theorem dL_law_954 : decode cL_law 954 = .ok (.iconst 2, 1) := dL_law_949_g.2.2.2.2.1
theorem dL_law_955 : decode cL_law 955 = .ok (.iadd, 1) := dL_law_949_g.2.2.2.2.2.1
theorem dL_law_956 : decode cL_law 956 = .ok (.iaload, 1) := dL_law_949_g.2.2.2.2.2.2.1
theorem dL_law_957 : decode cL_law 957 = .ok (.i2l, 1) := dL_law_949_g.2.2.2.2.2.2.2
theorem dL_law_958_g : (decode cL_law 958 = .ok (.bipush 32, 2)) ∧ (decode cL_law 960 = .ok (.lshl, 1)) ∧ (decode cL_law 961 = .ok (.aload_n 0, 1)) ∧ (decode cL_law 962 = .ok (.iload 4, 2)) ∧ (decode cL_law 964 = .ok (.iconst 3, 1)) ∧ (decode cL_law 965 = .ok (.iadd, 1)) ∧ (decode cL_law 966 = .ok (.iaload, 1)) ∧ (decode cL_law 967 = .ok (.i2l, 1)) := by decide +kernel
theorem dL_law_958 : decode cL_law 958 = .ok (.bipush 32, 2) := dL_law_958_g.1
theorem dL_law_960 : decode cL_law 960 = .ok (.lshl, 1) := dL_law_958_g.2.1
theorem dL_law_961 : decode cL_law 961 = .ok (.aload_n 0, 1) := dL_law_958_g.2.2.1
theorem dL_law_962 : decode cL_law 962 = .ok (.iload 4, 2) := dL_law_958_g.2.2.2.1
theorem dL_law_964 : decode cL_law 964 = .ok (.iconst 3, 1) := dL_law_958_g.2.2.2.2.1
theorem dL_law_965 : decode cL_law 965 = .ok (.iadd, 1) := dL_law_958_g.2.2.2.2.2.1
theorem dL_law_966 : decode cL_law 966 = .ok (.iaload, 1) := dL_law_958_g.2.2.2.2.2.2.1
theorem dL_law_967 : decode cL_law 967 = .ok (.i2l, 1) := dL_law_958_g.2.2.2.2.2.2.2
theorem dL_law_968_g : (decode cL_law 968 = .ok (.ldc2_w 108, 3)) ∧ (decode cL_law 971 = .ok (.land, 1)) ∧ (decode cL_law 972 = .ok (.lor, 1)) ∧ (decode cL_law 973 = .ok (.aload_n 0, 1)) ∧ (decode cL_law 974 = .ok (.iload 4, 2)) ∧ (decode cL_law 976 = .ok (.iconst 4, 1)) := by decide +kernel
theorem dL_law_968 : decode cL_law 968 = .ok (.ldc2_w 108, 3) := dL_law_968_g.1
theorem dL_law_971 : decode cL_law 971 = .ok (.land, 1) := dL_law_968_g.2.1
theorem dL_law_972 : decode cL_law 972 = .ok (.lor, 1) := dL_law_968_g.2.2.1
theorem dL_law_973 : decode cL_law 973 = .ok (.aload_n 0, 1) := dL_law_968_g.2.2.2.1
theorem dL_law_974 : decode cL_law 974 = .ok (.iload 4, 2) := dL_law_968_g.2.2.2.2.1
theorem dL_law_976 : decode cL_law 976 = .ok (.iconst 4, 1) := dL_law_968_g.2.2.2.2.2

