theorem dB_law_32 : ((((decode cL_law 766 = .ok (.iconst 2, 1)) ∧ (decode cL_law 767 = .ok (.iadd, 1))) ∧ ((decode cL_law 768 = .ok (.iaload, 1)) ∧ (decode cL_law 769 = .ok (.invokevirtual 81, 3)))) ∧ (((decode cL_law 772 = .ok (.pop, 1)) ∧ (decode cL_law 773 = .ok (.aload_n 2, 1))) ∧ ((decode cL_law 774 = .ok (.aload_n 0, 1)) ∧ (decode cL_law 775 = .ok (.iload_n 3, 1))))) ∧ ((((decode cL_law 776 = .ok (.iconst 1, 1)) ∧ (decode cL_law 777 = .ok (.iadd, 1))) ∧ ((decode cL_law 778 = .ok (.iaload, 1)) ∧ (decode cL_law 779 = .ok (.aload_n 0, 1)))) ∧ (((decode cL_law 780 = .ok (.iload_n 3, 1)) ∧ (decode cL_law 781 = .ok (.iconst 2, 1))) ∧ ((decode cL_law 782 = .ok (.iadd, 1)) ∧ (decode cL_law 783 = .ok (.iaload, 1))))) := by first | decide +kernel | ((repeat' apply And.intro) <;> decide +kernel)
theorem dL_law_766 : decode cL_law 766 = .ok (.iconst 2, 1) := dB_law_32.1.1.1.1
theorem dL_law_767 : decode cL_law 767 = .ok (.iadd, 1) := dB_law_32.1.1.1.2
theorem dL_law_768 : decode cL_law 768 = .ok (.iaload, 1) := dB_law_32.1.1.2.1
theorem dL_law_769 : decode cL_law 769 = .ok (.invokevirtual 81, 3) := dB_law_32.1.1.2.2
theorem dL_law_772 : decode cL_law 772 = .ok (.pop, 1) := dB_law_32.1.2.1.1
theorem dL_law_773 : decode cL_law 773 = .ok (.aload_n 2, 1) := dB_law_32.1.2.1.2
theorem dL_law_774 : decode cL_law 774 = .ok (.aload_n 0, 1) := dB_law_32.1.2.2.1
theorem dL_law_775 : decode cL_law 775 = .ok (.iload_n 3, 1) := dB_law_32.1.2.2.2
theorem dL_law_776 : decode cL_law 776 = .ok (.iconst 1, 1) := dB_law_32.2.1.1.1
theorem dL_law_777 : decode cL_law 777 = .ok (.iadd, 1) := dB_law_32.2.1.1.2
theorem dL_law_778 : decode cL_law 778 = .ok (.iaload, 1) := dB_law_32.2.1.2.1
theorem dL_law_779 : decode cL_law 779 = .ok (.aload_n 0, 1) := dB_law_32.2.1.2.2
theorem dL_law_780 : decode cL_law 780 = .ok (.iload_n 3, 1) := dB_law_32.2.2.1.1
theorem dL_law_781 : decode cL_law 781 = .ok (.iconst 2, 1) := dB_law_32.2.2.1.2
theorem dL_law_782 : decode cL_law 782 = .ok (.iadd, 1) := dB_law_32.2.2.2.1
theorem dL_law_783 : decode cL_law 783 = .ok (.iaload, 1) := dB_law_32.2.2.2.2
theorem dB_law_33 : ((((decode cL_law 784 = .ok (.invokevirtual 84, 3)) ∧ (decode cL_law 787 = .ok (.pop, 1))) ∧ ((decode cL_law 788 = .ok (.goto 545, 3)) ∧ (decode cL_law 791 = .ok (.aload_n 1, 1)))) ∧ (((decode cL_law 792 = .ok (.aload_n 0, 1)) ∧ (decode cL_law 793 = .ok (.iload_n 3, 1))) ∧ ((decode cL_law 794 = .ok (.iconst 1, 1)) ∧ (decode cL_law 795 = .ok (.iadd, 1))))) ∧ ((((decode cL_law 796 = .ok (.iaload, 1)) ∧ (decode cL_law 797 = .ok (.aload_n 0, 1))) ∧ ((decode cL_law 798 = .ok (.iload_n 3, 1)) ∧ (decode cL_law 799 = .ok (.iconst 2, 1)))) ∧ (((decode cL_law 800 = .ok (.iadd, 1)) ∧ (decode cL_law 801 = .ok (.iaload, 1))) ∧ ((decode cL_law 802 = .ok (.invokevirtual 85, 3)) ∧ (decode cL_law 805 = .ok (.pop, 1))))) := by first | decide +kernel | ((repeat' apply And.intro) <;> decide +kernel)
theorem dL_law_784 : decode cL_law 784 = .ok (.invokevirtual 84, 3) := dB_law_33.1.1.1.1
theorem dL_law_787 : decode cL_law 787 = .ok (.pop, 1) := dB_law_33.1.1.1.2
theorem dL_law_788 : decode cL_law 788 = .ok (.goto 545, 3) := dB_law_33.1.1.2.1
theorem dL_law_791 : decode cL_law 791 = .ok (.aload_n 1, 1) := dB_law_33.1.1.2.2
theorem dL_law_792 : decode cL_law 792 = .ok (.aload_n 0, 1) := dB_law_33.1.2.1.1
theorem dL_law_793 : decode cL_law 793 = .ok (.iload_n 3, 1) := dB_law_33.1.2.1.2
theorem dL_law_794 : decode cL_law 794 = .ok (.iconst 1, 1) := dB_law_33.1.2.2.1
theorem dL_law_795 : decode cL_law 795 = .ok (.iadd, 1) := dB_law_33.1.2.2.2
theorem dL_law_796 : decode cL_law 796 = .ok (.iaload, 1) := dB_law_33.2.1.1.1
theorem dL_law_797 : decode cL_law 797 = .ok (.aload_n 0, 1) := dB_law_33.2.1.1.2
theorem dL_law_798 : decode cL_law 798 = .ok (.iload_n 3, 1) := dB_law_33.2.1.2.1
theorem dL_law_799 : decode cL_law 799 = .ok (.iconst 2, 1) := dB_law_33.2.1.2.2
theorem dL_law_800 : decode cL_law 800 = .ok (.iadd, 1) := dB_law_33.2.2.1.1
theorem dL_law_801 : decode cL_law 801 = .ok (.iaload, 1) := dB_law_33.2.2.1.2
theorem dL_law_802 : decode cL_law 802 = .ok (.invokevirtual 85, 3) := dB_law_33.2.2.2.1
theorem dL_law_805 : decode cL_law 805 = .ok (.pop, 1) := dB_law_33.2.2.2.2
theorem dB_law_34 : ((((decode cL_law 806 = .ok (.aload_n 2, 1)) ∧ (decode cL_law 807 = .ok (.aload_n 0, 1))) ∧ ((decode cL_law 808 = .ok (.iload_n 3, 1)) ∧ (decode cL_law 809 = .ok (.iconst 1, 1)))) ∧ (((decode cL_law 810 = .ok (.iadd, 1)) ∧ (decode cL_law 811 = .ok (.iaload, 1))) ∧ ((decode cL_law 812 = .ok (.aload_n 0, 1)) ∧ (decode cL_law 813 = .ok (.iload_n 3, 1))))) ∧ ((((decode cL_law 814 = .ok (.iconst 2, 1)) ∧ (decode cL_law 815 = .ok (.iadd, 1))) ∧ ((decode cL_law 816 = .ok (.iaload, 1)) ∧ (decode cL_law 817 = .ok (.invokevirtual 88, 3)))) ∧ (((decode cL_law 820 = .ok (.pop, 1)) ∧ (decode cL_law 821 = .ok (.goto 512, 3))) ∧ ((decode cL_law 824 = .ok (.aload_n 1, 1)) ∧ (decode cL_law 825 = .ok (.invokevirtual 89, 3))))) := by first | decide +kernel | ((repeat' apply And.intro) <;> decide +kernel)
theorem dL_law_806 : decode cL_law 806 = .ok (.aload_n 2, 1) := dB_law_34.1.1.1.1
theorem dL_law_807 : decode cL_law 807 = .ok (.aload_n 0, 1) := dB_law_34.1.1.1.2
theorem dL_law_808 : decode cL_law 808 = .ok (.iload_n 3, 1) := dB_law_34.1.1.2.1
theorem dL_law_809 : decode cL_law 809 = .ok (.iconst 1, 1) := dB_law_34.1.1.2.2
theorem dL_law_810 : decode cL_law 810 = .ok (.iadd, 1) := dB_law_34.1.2.1.1
theorem dL_law_811 : decode cL_law 811 = .ok (.iaload, 1) := dB_law_34.1.2.1.2
theorem dL_law_812 : decode cL_law 812 = .ok (.aload_n 0, 1) := dB_law_34.1.2.2.1
theorem dL_law_813 : decode cL_law 813 = .ok (.iload_n 3, 1) := dB_law_34.1.2.2.2
theorem dL_law_814 : decode cL_law 814 = .ok (.iconst 2, 1) := dB_law_34.2.1.1.1
theorem dL_law_815 : decode cL_law 815 = .ok (.iadd, 1) := dB_law_34.2.1.1.2
theorem dL_law_816 : decode cL_law 816 = .ok (.iaload, 1) := dB_law_34.2.1.2.1
theorem dL_law_817 : decode cL_law 817 = .ok (.invokevirtual 88, 3) := dB_law_34.2.1.2.2
theorem dL_law_820 : decode cL_law 820 = .ok (.pop, 1) := dB_law_34.2.2.1.1
theorem dL_law_821 : decode cL_law 821 = .ok (.goto 512, 3) := dB_law_34.2.2.1.2
theorem dL_law_824 : decode cL_law 824 = .ok (.aload_n 1, 1) := dB_law_34.2.2.2.1
theorem dL_law_825 : decode cL_law 825 = .ok (.invokevirtual 89, 3) := dB_law_34.2.2.2.2
theorem dB_law_35 : ((((decode cL_law 828 = .ok (.pop, 1)) ∧ (decode cL_law 829 = .ok (.aload_n 2, 1))) ∧ ((decode cL_law 830 = .ok (.invokevirtual 92, 3)) ∧ (decode cL_law 833 = .ok (.pop, 1)))) ∧ (((decode cL_law 834 = .ok (.goto 499, 3)) ∧ (decode cL_law 837 = .ok (.aload_n 1, 1))) ∧ ((decode cL_law 838 = .ok (.invokevirtual 93, 3)) ∧ (decode cL_law 841 = .ok (.pop, 1))))) ∧ ((((decode cL_law 842 = .ok (.aload_n 2, 1)) ∧ (decode cL_law 843 = .ok (.invokevirtual 96, 3))) ∧ ((decode cL_law 846 = .ok (.pop, 1)) ∧ (decode cL_law 847 = .ok (.goto 486, 3)))) ∧ (((decode cL_law 850 = .ok (.aload_n 1, 1)) ∧ (decode cL_law 851 = .ok (.aload_n 0, 1))) ∧ ((decode cL_law 852 = .ok (.iload_n 3, 1)) ∧ (decode cL_law 853 = .ok (.iconst 1, 1))))) := by first | decide +kernel | ((repeat' apply And.intro) <;> decide +kernel)
theorem dL_law_828 : decode cL_law 828 = .ok (.pop, 1) := dB_law_35.1.1.1.1
theorem dL_law_829 : decode cL_law 829 = .ok (.aload_n 2, 1) := dB_law_35.1.1.1.2
theorem dL_law_830 : decode cL_law 830 = .ok (.invokevirtual 92, 3) := dB_law_35.1.1.2.1
theorem dL_law_833 : decode cL_law 833 = .ok (.pop, 1) := dB_law_35.1.1.2.2
theorem dL_law_834 : decode cL_law 834 = .ok (.goto 499, 3) := dB_law_35.1.2.1.1
theorem dL_law_837 : decode cL_law 837 = .ok (.aload_n 1, 1) := dB_law_35.1.2.1.2
theorem dL_law_838 : decode cL_law 838 = .ok (.invokevirtual 93, 3) := dB_law_35.1.2.2.1
theorem dL_law_841 : decode cL_law 841 = .ok (.pop, 1) := dB_law_35.1.2.2.2
theorem dL_law_842 : decode cL_law 842 = .ok (.aload_n 2, 1) := dB_law_35.2.1.1.1
theorem dL_law_843 : decode cL_law 843 = .ok (.invokevirtual 96, 3) := dB_law_35.2.1.1.2
theorem dL_law_846 : decode cL_law 846 = .ok (.pop, 1) := dB_law_35.2.1.2.1
theorem dL_law_847 : decode cL_law 847 = .ok (.goto 486, 3) := dB_law_35.2.1.2.2
theorem dL_law_850 : decode cL_law 850 = .ok (.aload_n 1, 1) := dB_law_35.2.2.1.1
theorem dL_law_851 : decode cL_law 851 = .ok (.aload_n 0, 1) := dB_law_35.2.2.1.2
theorem dL_law_852 : decode cL_law 852 = .ok (.iload_n 3, 1) := dB_law_35.2.2.2.1
theorem dL_law_853 : decode cL_law 853 = .ok (.iconst 1, 1) := dB_law_35.2.2.2.2
theorem dB_law_36 : ((((decode cL_law 854 = .ok (.iadd, 1)) ∧ (decode cL_law 855 = .ok (.iaload, 1))) ∧ ((decode cL_law 856 = .ok (.invokevirtual 97, 3)) ∧ (decode cL_law 859 = .ok (.pop, 1)))) ∧ (((decode cL_law 860 = .ok (.aload_n 2, 1)) ∧ (decode cL_law 861 = .ok (.aload_n 0, 1))) ∧ ((decode cL_law 862 = .ok (.iload_n 3, 1)) ∧ (decode cL_law 863 = .ok (.iconst 1, 1))))) ∧ ((((decode cL_law 864 = .ok (.iadd, 1)) ∧ (decode cL_law 865 = .ok (.iaload, 1))) ∧ ((decode cL_law 866 = .ok (.invokevirtual 101, 3)) ∧ (decode cL_law 869 = .ok (.pop, 1)))) ∧ (((decode cL_law 870 = .ok (.goto 463, 3)) ∧ (decode cL_law 873 = .ok (.aload_n 1, 1))) ∧ ((decode cL_law 874 = .ok (.aload_n 0, 1)) ∧ (decode cL_law 875 = .ok (.iload_n 3, 1))))) := by first | decide +kernel | ((repeat' apply And.intro) <;> decide +kernel)
theorem dL_law_854 : decode cL_law 854 = .ok (.iadd, 1) := dB_law_36.1.1.1.1
theorem dL_law_855 : decode cL_law 855 = .ok (.iaload, 1) := dB_law_36.1.1.1.2
theorem dL_law_856 : decode cL_law 856 = .ok (.invokevirtual 97, 3) := dB_law_36.1.1.2.1
theorem dL_law_859 : decode cL_law 859 = .ok (.pop, 1) := dB_law_36.1.1.2.2
theorem dL_law_860 : decode cL_law 860 = .ok (.aload_n 2, 1) := dB_law_36.1.2.1.1
theorem dL_law_861 : decode cL_law 861 = .ok (.aload_n 0, 1) := dB_law_36.1.2.1.2
theorem dL_law_862 : decode cL_law 862 = .ok (.iload_n 3, 1) := dB_law_36.1.2.2.1
theorem dL_law_863 : decode cL_law 863 = .ok (.iconst 1, 1) := dB_law_36.1.2.2.2
theorem dL_law_864 : decode cL_law 864 = .ok (.iadd, 1) := dB_law_36.2.1.1.1
theorem dL_law_865 : decode cL_law 865 = .ok (.iaload, 1) := dB_law_36.2.1.1.2
theorem dL_law_866 : decode cL_law 866 = .ok (.invokevirtual 101, 3) := dB_law_36.2.1.2.1
theorem dL_law_869 : decode cL_law 869 = .ok (.pop, 1) := dB_law_36.2.1.2.2
theorem dL_law_870 : decode cL_law 870 = .ok (.goto 463, 3) := dB_law_36.2.2.1.1
theorem dL_law_873 : decode cL_law 873 = .ok (.aload_n 1, 1) := dB_law_36.2.2.1.2
theorem dL_law_874 : decode cL_law 874 = .ok (.aload_n 0, 1) := dB_law_36.2.2.2.1
theorem dL_law_875 : decode cL_law 875 = .ok (.iload_n 3, 1) := dB_law_36.2.2.2.2
theorem dB_law_37 : ((((decode cL_law 876 = .ok (.iconst 1, 1)) ∧ (decode cL_law 877 = .ok (.iadd, 1))) ∧ ((decode cL_law 878 = .ok (.iaload, 1)) ∧ (decode cL_law 879 = .ok (.invokevirtual 102, 3)))) ∧ (((decode cL_law 882 = .ok (.pop, 1)) ∧ (decode cL_law 883 = .ok (.aload_n 2, 1))) ∧ ((decode cL_law 884 = .ok (.aload_n 0, 1)) ∧ (decode cL_law 885 = .ok (.iload_n 3, 1))))) ∧ ((((decode cL_law 886 = .ok (.iconst 1, 1)) ∧ (decode cL_law 887 = .ok (.iadd, 1))) ∧ ((decode cL_law 888 = .ok (.iaload, 1)) ∧ (decode cL_law 889 = .ok (.invokevirtual 105, 3)))) ∧ (((decode cL_law 892 = .ok (.pop, 1)) ∧ (decode cL_law 893 = .ok (.goto 440, 3))) ∧ ((decode cL_law 896 = .ok (.aload_n 1, 1)) ∧ (decode cL_law 897 = .ok (.aload_n 0, 1))))) := by first | decide +kernel | ((repeat' apply And.intro) <;> decide +kernel)
theorem dL_law_876 : decode cL_law 876 = .ok (.iconst 1, 1) := dB_law_37.1.1.1.1
theorem dL_law_877 : decode cL_law 877 = .ok (.iadd, 1) := dB_law_37.1.1.1.2
theorem dL_law_878 : decode cL_law 878 = .ok (.iaload, 1) := dB_law_37.1.1.2.1
theorem dL_law_879 : decode cL_law 879 = .ok (.invokevirtual 102, 3) := dB_law_37.1.1.2.2
theorem dL_law_882 : decode cL_law 882 = .ok (.pop, 1) := dB_law_37.1.2.1.1
theorem dL_law_883 : decode cL_law 883 = .ok (.aload_n 2, 1) := dB_law_37.1.2.1.2
theorem dL_law_884 : decode cL_law 884 = .ok (.aload_n 0, 1) := dB_law_37.1.2.2.1
theorem dL_law_885 : decode cL_law 885 = .ok (.iload_n 3, 1) := dB_law_37.1.2.2.2
theorem dL_law_886 : decode cL_law 886 = .ok (.iconst 1, 1) := dB_law_37.2.1.1.1
theorem dL_law_887 : decode cL_law 887 = .ok (.iadd, 1) := dB_law_37.2.1.1.2
theorem dL_law_888 : decode cL_law 888 = .ok (.iaload, 1) := dB_law_37.2.1.2.1
theorem dL_law_889 : decode cL_law 889 = .ok (.invokevirtual 105, 3) := dB_law_37.2.1.2.2
theorem dL_law_892 : decode cL_law 892 = .ok (.pop, 1) := dB_law_37.2.2.1.1
theorem dL_law_893 : decode cL_law 893 = .ok (.goto 440, 3) := dB_law_37.2.2.1.2
theorem dL_law_896 : decode cL_law 896 = .ok (.aload_n 1, 1) := dB_law_37.2.2.2.1
theorem dL_law_897 : decode cL_law 897 = .ok (.aload_n 0, 1) := dB_law_37.2.2.2.2
theorem dB_law_38 : ((((decode cL_law 898 = .ok (.iload_n 3, 1)) ∧ (decode cL_law 899 = .ok (.iconst 1, 1))) ∧ ((decode cL_law 900 = .ok (.iadd, 1)) ∧ (decode cL_law 901 = .ok (.iaload, 1)))) ∧ (((decode cL_law 902 = .ok (.aload_n 0, 1)) ∧ (decode cL_law 903 = .ok (.iload_n 3, 1))) ∧ ((decode cL_law 904 = .ok (.iconst 2, 1)) ∧ (decode cL_law 905 = .ok (.iadd, 1))))) ∧ ((((decode cL_law 906 = .ok (.iaload, 1)) ∧ (decode cL_law 907 = .ok (.invokevirtual 106, 3))) ∧ ((decode cL_law 910 = .ok (.pop, 1)) ∧ (decode cL_law 911 = .ok (.aload_n 2, 1)))) ∧ (((decode cL_law 912 = .ok (.aload_n 0, 1)) ∧ (decode cL_law 913 = .ok (.iload_n 3, 1))) ∧ ((decode cL_law 914 = .ok (.iconst 1, 1)) ∧ (decode cL_law 915 = .ok (.iadd, 1))))) := by first | decide +kernel | ((repeat' apply And.intro) <;> decide +kernel)
theorem dL_law_898 : decode cL_law 898 = .ok (.iload_n 3, 1) := dB_law_38.1.1.1.1
theorem dL_law_899 : decode cL_law 899 = .ok (.iconst 1, 1) := dB_law_38.1.1.1.2
theorem dL_law_900 : decode cL_law 900 = .ok (.iadd, 1) := dB_law_38.1.1.2.1
theorem dL_law_901 : decode cL_law 901 = .ok (.iaload, 1) := dB_law_38.1.1.2.2
theorem dL_law_902 : decode cL_law 902 = .ok (.aload_n 0, 1) := dB_law_38.1.2.1.1
theorem dL_law_903 : decode cL_law 903 = .ok (.iload_n 3, 1) := dB_law_38.1.2.1.2
theorem dL_law_904 : decode cL_law 904 = .ok (.iconst 2, 1) := dB_law_38.1.2.2.1
theorem dL_law_905 : decode cL_law 905 = .ok (.iadd, 1) := dB_law_38.1.2.2.2
theorem dL_law_906 : decode cL_law 906 = .ok (.iaload, 1) := dB_law_38.2.1.1.1
theorem dL_law_907 : decode cL_law 907 = .ok (.invokevirtual 106, 3) := dB_law_38.2.1.1.2
theorem dL_law_910 : decode cL_law 910 = .ok (.pop, 1) := dB_law_38.2.1.2.1
theorem dL_law_911 : decode cL_law 911 = .ok (.aload_n 2, 1) := dB_law_38.2.1.2.2
theorem dL_law_912 : decode cL_law 912 = .ok (.aload_n 0, 1) := dB_law_38.2.2.1.1
theorem dL_law_913 : decode cL_law 913 = .ok (.iload_n 3, 1) := dB_law_38.2.2.1.2
theorem dL_law_914 : decode cL_law 914 = .ok (.iconst 1, 1) := dB_law_38.2.2.2.1
theorem dL_law_915 : decode cL_law 915 = .ok (.iadd, 1) := dB_law_38.2.2.2.2
theorem dB_law_39 : ((((decode cL_law 916 = .ok (.iaload, 1)) ∧ (decode cL_law 917 = .ok (.aload_n 0, 1))) ∧ ((decode cL_law 918 = .ok (.iload_n 3, 1)) ∧ (decode cL_law 919 = .ok (.iconst 2, 1)))) ∧ (((decode cL_law 920 = .ok (.iadd, 1)) ∧ (decode cL_law 921 = .ok (.iaload, 1))) ∧ ((decode cL_law 922 = .ok (.invokevirtual 109, 3)) ∧ (decode cL_law 925 = .ok (.pop, 1))))) ∧ ((((decode cL_law 926 = .ok (.goto 407, 3)) ∧ (decode cL_law 929 = .ok (.aload_n 1, 1))) ∧ ((decode cL_law 930 = .ok (.aload_n 0, 1)) ∧ (decode cL_law 931 = .ok (.iload_n 3, 1)))) ∧ (((decode cL_law 932 = .ok (.iconst 1, 1)) ∧ (decode cL_law 933 = .ok (.iadd, 1))) ∧ ((decode cL_law 934 = .ok (.iaload, 1)) ∧ (decode cL_law 935 = .ok (.invokevirtual 110, 3))))) := by first | decide +kernel | ((repeat' apply And.intro) <;> decide +kernel)
theorem dL_law_916 : decode cL_law 916 = .ok (.iaload, 1) := dB_law_39.1.1.1.1
theorem dL_law_917 : decode cL_law 917 = .ok (.aload_n 0, 1) := dB_law_39.1.1.1.2
theorem dL_law_918 : decode cL_law 918 = .ok (.iload_n 3, 1) := dB_law_39.1.1.2.1
theorem dL_law_919 : decode cL_law 919 = .ok (.iconst 2, 1) := dB_law_39.1.1.2.2
theorem dL_law_920 : decode cL_law 920 = .ok (.iadd, 1) := dB_law_39.1.2.1.1
theorem dL_law_921 : decode cL_law 921 = .ok (.iaload, 1) := dB_law_39.1.2.1.2
theorem dL_law_922 : decode cL_law 922 = .ok (.invokevirtual 109, 3) := dB_law_39.1.2.2.1
theorem dL_law_925 : decode cL_law 925 = .ok (.pop, 1) := dB_law_39.1.2.2.2
theorem dL_law_926 : decode cL_law 926 = .ok (.goto 407, 3) := dB_law_39.2.1.1.1
theorem dL_law_929 : decode cL_law 929 = .ok (.aload_n 1, 1) := dB_law_39.2.1.1.2
theorem dL_law_930 : decode cL_law 930 = .ok (.aload_n 0, 1) := dB_law_39.2.1.2.1
theorem dL_law_931 : decode cL_law 931 = .ok (.iload_n 3, 1) := dB_law_39.2.1.2.2
theorem dL_law_932 : decode cL_law 932 = .ok (.iconst 1, 1) := dB_law_39.2.2.1.1
theorem dL_law_933 : decode cL_law 933 = .ok (.iadd, 1) := dB_law_39.2.2.1.2
theorem dL_law_934 : decode cL_law 934 = .ok (.iaload, 1) := dB_law_39.2.2.2.1
theorem dL_law_935 : decode cL_law 935 = .ok (.invokevirtual 110, 3) := dB_law_39.2.2.2.2
theorem dB_law_40 : ((((decode cL_law 938 = .ok (.pop, 1)) ∧ (decode cL_law 939 = .ok (.aload_n 2, 1))) ∧ ((decode cL_law 940 = .ok (.aload_n 0, 1)) ∧ (decode cL_law 941 = .ok (.iload_n 3, 1)))) ∧ (((decode cL_law 942 = .ok (.iconst 1, 1)) ∧ (decode cL_law 943 = .ok (.iadd, 1))) ∧ ((decode cL_law 944 = .ok (.iaload, 1)) ∧ (decode cL_law 945 = .ok (.invokevirtual 113, 3))))) ∧ ((((decode cL_law 948 = .ok (.pop, 1)) ∧ (decode cL_law 949 = .ok (.goto 384, 3))) ∧ ((decode cL_law 952 = .ok (.aload_n 1, 1)) ∧ (decode cL_law 953 = .ok (.aload_n 0, 1)))) ∧ (((decode cL_law 954 = .ok (.iload_n 3, 1)) ∧ (decode cL_law 955 = .ok (.iconst 1, 1))) ∧ ((decode cL_law 956 = .ok (.iadd, 1)) ∧ (decode cL_law 957 = .ok (.iaload, 1))))) := by first | decide +kernel | ((repeat' apply And.intro) <;> decide +kernel)
theorem dL_law_938 : decode cL_law 938 = .ok (.pop, 1) := dB_law_40.1.1.1.1
theorem dL_law_939 : decode cL_law 939 = .ok (.aload_n 2, 1) := dB_law_40.1.1.1.2
theorem dL_law_940 : decode cL_law 940 = .ok (.aload_n 0, 1) := dB_law_40.1.1.2.1
theorem dL_law_941 : decode cL_law 941 = .ok (.iload_n 3, 1) := dB_law_40.1.1.2.2
theorem dL_law_942 : decode cL_law 942 = .ok (.iconst 1, 1) := dB_law_40.1.2.1.1
theorem dL_law_943 : decode cL_law 943 = .ok (.iadd, 1) := dB_law_40.1.2.1.2
theorem dL_law_944 : decode cL_law 944 = .ok (.iaload, 1) := dB_law_40.1.2.2.1
theorem dL_law_945 : decode cL_law 945 = .ok (.invokevirtual 113, 3) := dB_law_40.1.2.2.2
theorem dL_law_948 : decode cL_law 948 = .ok (.pop, 1) := dB_law_40.2.1.1.1
theorem dL_law_949 : decode cL_law 949 = .ok (.goto 384, 3) := dB_law_40.2.1.1.2
theorem dL_law_952 : decode cL_law 952 = .ok (.aload_n 1, 1) := dB_law_40.2.1.2.1
theorem dL_law_953 : decode cL_law 953 = .ok (.aload_n 0, 1) := dB_law_40.2.1.2.2
theorem dL_law_954 : decode cL_law 954 = .ok (.iload_n 3, 1) := dB_law_40.2.2.1.1
theorem dL_law_955 : decode cL_law 955 = .ok (.iconst 1, 1) := dB_law_40.2.2.1.2
theorem dL_law_956 : decode cL_law 956 = .ok (.iadd, 1) := dB_law_40.2.2.2.1
theorem dL_law_957 : decode cL_law 957 = .ok (.iaload, 1) := dB_law_40.2.2.2.2
theorem dB_law_41 : ((((decode cL_law 958 = .ok (.aload_n 0, 1)) ∧ (decode cL_law 959 = .ok (.iload_n 3, 1))) ∧ ((decode cL_law 960 = .ok (.iconst 2, 1)) ∧ (decode cL_law 961 = .ok (.iadd, 1)))) ∧ (((decode cL_law 962 = .ok (.iaload, 1)) ∧ (decode cL_law 963 = .ok (.aload_n 0, 1))) ∧ ((decode cL_law 964 = .ok (.iload_n 3, 1)) ∧ (decode cL_law 965 = .ok (.iconst 3, 1))))) ∧ ((((decode cL_law 966 = .ok (.iadd, 1)) ∧ (decode cL_law 967 = .ok (.iaload, 1))) ∧ ((decode cL_law 968 = .ok (.invokevirtual 114, 3)) ∧ (decode cL_law 971 = .ok (.pop, 1)))) ∧ (((decode cL_law 972 = .ok (.aload_n 2, 1)) ∧ (decode cL_law 973 = .ok (.aload_n 0, 1))) ∧ ((decode cL_law 974 = .ok (.iload_n 3, 1)) ∧ (decode cL_law 975 = .ok (.iconst 1, 1))))) := by first | decide +kernel | ((repeat' apply And.intro) <;> decide +kernel)
theorem dL_law_958 : decode cL_law 958 = .ok (.aload_n 0, 1) := dB_law_41.1.1.1.1
theorem dL_law_959 : decode cL_law 959 = .ok (.iload_n 3, 1) := dB_law_41.1.1.1.2
theorem dL_law_960 : decode cL_law 960 = .ok (.iconst 2, 1) := dB_law_41.1.1.2.1
theorem dL_law_961 : decode cL_law 961 = .ok (.iadd, 1) := dB_law_41.1.1.2.2
theorem dL_law_962 : decode cL_law 962 = .ok (.iaload, 1) := dB_law_41.1.2.1.1
theorem dL_law_963 : decode cL_law 963 = .ok (.aload_n 0, 1) := dB_law_41.1.2.1.2
theorem dL_law_964 : decode cL_law 964 = .ok (.iload_n 3, 1) := dB_law_41.1.2.2.1
theorem dL_law_965 : decode cL_law 965 = .ok (.iconst 3, 1) := dB_law_41.1.2.2.2
theorem dL_law_966 : decode cL_law 966 = .ok (.iadd, 1) := dB_law_41.2.1.1.1
theorem dL_law_967 : decode cL_law 967 = .ok (.iaload, 1) := dB_law_41.2.1.1.2
theorem dL_law_968 : decode cL_law 968 = .ok (.invokevirtual 114, 3) := dB_law_41.2.1.2.1
theorem dL_law_971 : decode cL_law 971 = .ok (.pop, 1) := dB_law_41.2.1.2.2
theorem dL_law_972 : decode cL_law 972 = .ok (.aload_n 2, 1) := dB_law_41.2.2.1.1
theorem dL_law_973 : decode cL_law 973 = .ok (.aload_n 0, 1) := dB_law_41.2.2.1.2
theorem dL_law_974 : decode cL_law 974 = .ok (.iload_n 3, 1) := dB_law_41.2.2.2.1
theorem dL_law_975 : decode cL_law 975 = .ok (.iconst 1, 1) := dB_law_41.2.2.2.2
theorem dB_law_42 : ((((decode cL_law 976 = .ok (.iadd, 1)) ∧ (decode cL_law 977 = .ok (.iaload, 1))) ∧ ((decode cL_law 978 = .ok (.aload_n 0, 1)) ∧ (decode cL_law 979 = .ok (.iload_n 3, 1)))) ∧ (((decode cL_law 980 = .ok (.iconst 2, 1)) ∧ (decode cL_law 981 = .ok (.iadd, 1))) ∧ ((decode cL_law 982 = .ok (.iaload, 1)) ∧ (decode cL_law 983 = .ok (.aload_n 0, 1))))) ∧ ((((decode cL_law 984 = .ok (.iload_n 3, 1)) ∧ (decode cL_law 985 = .ok (.iconst 3, 1))) ∧ ((decode cL_law 986 = .ok (.iadd, 1)) ∧ (decode cL_law 987 = .ok (.iaload, 1)))) ∧ (((decode cL_law 988 = .ok (.invokevirtual 117, 3)) ∧ (decode cL_law 991 = .ok (.pop, 1))) ∧ ((decode cL_law 992 = .ok (.goto 341, 3)) ∧ (decode cL_law 995 = .ok (.aload_n 1, 1))))) := by first | decide +kernel | ((repeat' apply And.intro) <;> decide +kernel)
theorem dL_law_976 : decode cL_law 976 = .ok (.iadd, 1) := dB_law_42.1.1.1.1
theorem dL_law_977 : decode cL_law 977 = .ok (.iaload, 1) := dB_law_42.1.1.1.2
theorem dL_law_978 : decode cL_law 978 = .ok (.aload_n 0, 1) := dB_law_42.1.1.2.1
theorem dL_law_979 : decode cL_law 979 = .ok (.iload_n 3, 1) := dB_law_42.1.1.2.2
theorem dL_law_980 : decode cL_law 980 = .ok (.iconst 2, 1) := dB_law_42.1.2.1.1
theorem dL_law_981 : decode cL_law 981 = .ok (.iadd, 1) := dB_law_42.1.2.1.2
theorem dL_law_982 : decode cL_law 982 = .ok (.iaload, 1) := dB_law_42.1.2.2.1
theorem dL_law_983 : decode cL_law 983 = .ok (.aload_n 0, 1) := dB_law_42.1.2.2.2
theorem dL_law_984 : decode cL_law 984 = .ok (.iload_n 3, 1) := dB_law_42.2.1.1.1
theorem dL_law_985 : decode cL_law 985 = .ok (.iconst 3, 1) := dB_law_42.2.1.1.2
theorem dL_law_986 : decode cL_law 986 = .ok (.iadd, 1) := dB_law_42.2.1.2.1
theorem dL_law_987 : decode cL_law 987 = .ok (.iaload, 1) := dB_law_42.2.1.2.2
theorem dL_law_988 : decode cL_law 988 = .ok (.invokevirtual 117, 3) := dB_law_42.2.2.1.1
theorem dL_law_991 : decode cL_law 991 = .ok (.pop, 1) := dB_law_42.2.2.1.2
theorem dL_law_992 : decode cL_law 992 = .ok (.goto 341, 3) := dB_law_42.2.2.2.1
theorem dL_law_995 : decode cL_law 995 = .ok (.aload_n 1, 1) := dB_law_42.2.2.2.2
theorem dB_law_43 : ((((decode cL_law 996 = .ok (.aload_n 0, 1)) ∧ (decode cL_law 997 = .ok (.iload_n 3, 1))) ∧ ((decode cL_law 998 = .ok (.iconst 1, 1)) ∧ (decode cL_law 999 = .ok (.iadd, 1)))) ∧ (((decode cL_law 1000 = .ok (.iaload, 1)) ∧ (decode cL_law 1001 = .ok (.aload_n 0, 1))) ∧ ((decode cL_law 1002 = .ok (.iload_n 3, 1)) ∧ (decode cL_law 1003 = .ok (.iconst 2, 1))))) ∧ ((((decode cL_law 1004 = .ok (.iadd, 1)) ∧ (decode cL_law 1005 = .ok (.iaload, 1))) ∧ ((decode cL_law 1006 = .ok (.aload_n 0, 1)) ∧ (decode cL_law 1007 = .ok (.iload_n 3, 1)))) ∧ (((decode cL_law 1008 = .ok (.iconst 3, 1)) ∧ (decode cL_law 1009 = .ok (.iadd, 1))) ∧ ((decode cL_law 1010 = .ok (.iaload, 1)) ∧ (decode cL_law 1011 = .ok (.invokevirtual 118, 3))))) := by first | decide +kernel | ((repeat' apply And.intro) <;> decide +kernel)
theorem dL_law_996 : decode cL_law 996 = .ok (.aload_n 0, 1) := dB_law_43.1.1.1.1
theorem dL_law_997 : decode cL_law 997 = .ok (.iload_n 3, 1) := dB_law_43.1.1.1.2
theorem dL_law_998 : decode cL_law 998 = .ok (.iconst 1, 1) := dB_law_43.1.1.2.1
theorem dL_law_999 : decode cL_law 999 = .ok (.iadd, 1) := dB_law_43.1.1.2.2
theorem dL_law_1000 : decode cL_law 1000 = .ok (.iaload, 1) := dB_law_43.1.2.1.1
theorem dL_law_1001 : decode cL_law 1001 = .ok (.aload_n 0, 1) := dB_law_43.1.2.1.2
theorem dL_law_1002 : decode cL_law 1002 = .ok (.iload_n 3, 1) := dB_law_43.1.2.2.1
theorem dL_law_1003 : decode cL_law 1003 = .ok (.iconst 2, 1) := dB_law_43.1.2.2.2
theorem dL_law_1004 : decode cL_law 1004 = .ok (.iadd, 1) := dB_law_43.2.1.1.1
theorem dL_law_1005 : decode cL_law 1005 = .ok (.iaload, 1) := dB_law_43.2.1.1.2
theorem dL_law_1006 : decode cL_law 1006 = .ok (.aload_n 0, 1) := dB_law_43.2.1.2.1
theorem dL_law_1007 : decode cL_law 1007 = .ok (.iload_n 3, 1) := dB_law_43.2.1.2.2
theorem dL_law_1008 : decode cL_law 1008 = .ok (.iconst 3, 1) := dB_law_43.2.2.1.1
theorem dL_law_1009 : decode cL_law 1009 = .ok (.iadd, 1) := dB_law_43.2.2.1.2
theorem dL_law_1010 : decode cL_law 1010 = .ok (.iaload, 1) := dB_law_43.2.2.2.1
theorem dL_law_1011 : decode cL_law 1011 = .ok (.invokevirtual 118, 3) := dB_law_43.2.2.2.2
theorem dB_law_44 : ((((decode cL_law 1014 = .ok (.pop, 1)) ∧ (decode cL_law 1015 = .ok (.aload_n 2, 1))) ∧ ((decode cL_law 1016 = .ok (.aload_n 0, 1)) ∧ (decode cL_law 1017 = .ok (.iload_n 3, 1)))) ∧ (((decode cL_law 1018 = .ok (.iconst 1, 1)) ∧ (decode cL_law 1019 = .ok (.iadd, 1))) ∧ ((decode cL_law 1020 = .ok (.iaload, 1)) ∧ (decode cL_law 1021 = .ok (.aload_n 0, 1))))) ∧ ((((decode cL_law 1022 = .ok (.iload_n 3, 1)) ∧ (decode cL_law 1023 = .ok (.iconst 2, 1))) ∧ ((decode cL_law 1024 = .ok (.iadd, 1)) ∧ (decode cL_law 1025 = .ok (.iaload, 1)))) ∧ (((decode cL_law 1026 = .ok (.aload_n 0, 1)) ∧ (decode cL_law 1027 = .ok (.iload_n 3, 1))) ∧ ((decode cL_law 1028 = .ok (.iconst 3, 1)) ∧ (decode cL_law 1029 = .ok (.iadd, 1))))) := by first | decide +kernel | ((repeat' apply And.intro) <;> decide +kernel)
theorem dL_law_1014 : decode cL_law 1014 = .ok (.pop, 1) := dB_law_44.1.1.1.1
theorem dL_law_1015 : decode cL_law 1015 = .ok (.aload_n 2, 1) := dB_law_44.1.1.1.2
theorem dL_law_1016 : decode cL_law 1016 = .ok (.aload_n 0, 1) := dB_law_44.1.1.2.1
theorem dL_law_1017 : decode cL_law 1017 = .ok (.iload_n 3, 1) := dB_law_44.1.1.2.2
theorem dL_law_1018 : decode cL_law 1018 = .ok (.iconst 1, 1) := dB_law_44.1.2.1.1
theorem dL_law_1019 : decode cL_law 1019 = .ok (.iadd, 1) := dB_law_44.1.2.1.2
theorem dL_law_1020 : decode cL_law 1020 = .ok (.iaload, 1) := dB_law_44.1.2.2.1
theorem dL_law_1021 : decode cL_law 1021 = .ok (.aload_n 0, 1) := dB_law_44.1.2.2.2
theorem dL_law_1022 : decode cL_law 1022 = .ok (.iload_n 3, 1) := dB_law_44.2.1.1.1
theorem dL_law_1023 : decode cL_law 1023 = .ok (.iconst 2, 1) := dB_law_44.2.1.1.2
theorem dL_law_1024 : decode cL_law 1024 = .ok (.iadd, 1) := dB_law_44.2.1.2.1
theorem dL_law_1025 : decode cL_law 1025 = .ok (.iaload, 1) := dB_law_44.2.1.2.2
theorem dL_law_1026 : decode cL_law 1026 = .ok (.aload_n 0, 1) := dB_law_44.2.2.1.1
theorem dL_law_1027 : decode cL_law 1027 = .ok (.iload_n 3, 1) := dB_law_44.2.2.1.2
theorem dL_law_1028 : decode cL_law 1028 = .ok (.iconst 3, 1) := dB_law_44.2.2.2.1
theorem dL_law_1029 : decode cL_law 1029 = .ok (.iadd, 1) := dB_law_44.2.2.2.2
theorem dB_law_45 : ((((decode cL_law 1030 = .ok (.iaload, 1)) ∧ (decode cL_law 1031 = .ok (.invokevirtual 121, 3))) ∧ ((decode cL_law 1034 = .ok (.pop, 1)) ∧ (decode cL_law 1035 = .ok (.goto 298, 3)))) ∧ (((decode cL_law 1038 = .ok (.aload_n 1, 1)) ∧ (decode cL_law 1039 = .ok (.aload_n 0, 1))) ∧ ((decode cL_law 1040 = .ok (.iload_n 3, 1)) ∧ (decode cL_law 1041 = .ok (.iconst 1, 1))))) ∧ ((((decode cL_law 1042 = .ok (.iadd, 1)) ∧ (decode cL_law 1043 = .ok (.iaload, 1))) ∧ ((decode cL_law 1044 = .ok (.aload_n 0, 1)) ∧ (decode cL_law 1045 = .ok (.iload_n 3, 1)))) ∧ (((decode cL_law 1046 = .ok (.iconst 2, 1)) ∧ (decode cL_law 1047 = .ok (.iadd, 1))) ∧ ((decode cL_law 1048 = .ok (.iaload, 1)) ∧ (decode cL_law 1049 = .ok (.aload_n 0, 1))))) := by first | decide +kernel | ((repeat' apply And.intro) <;> decide +kernel)
theorem dL_law_1030 : decode cL_law 1030 = .ok (.iaload, 1) := dB_law_45.1.1.1.1
theorem dL_law_1031 : decode cL_law 1031 = .ok (.invokevirtual 121, 3) := dB_law_45.1.1.1.2
theorem dL_law_1034 : decode cL_law 1034 = .ok (.pop, 1) := dB_law_45.1.1.2.1
theorem dL_law_1035 : decode cL_law 1035 = .ok (.goto 298, 3) := dB_law_45.1.1.2.2
theorem dL_law_1038 : decode cL_law 1038 = .ok (.aload_n 1, 1) := dB_law_45.1.2.1.1
theorem dL_law_1039 : decode cL_law 1039 = .ok (.aload_n 0, 1) := dB_law_45.1.2.1.2
theorem dL_law_1040 : decode cL_law 1040 = .ok (.iload_n 3, 1) := dB_law_45.1.2.2.1
theorem dL_law_1041 : decode cL_law 1041 = .ok (.iconst 1, 1) := dB_law_45.1.2.2.2
theorem dL_law_1042 : decode cL_law 1042 = .ok (.iadd, 1) := dB_law_45.2.1.1.1
theorem dL_law_1043 : decode cL_law 1043 = .ok (.iaload, 1) := dB_law_45.2.1.1.2
theorem dL_law_1044 : decode cL_law 1044 = .ok (.aload_n 0, 1) := dB_law_45.2.1.2.1
theorem dL_law_1045 : decode cL_law 1045 = .ok (.iload_n 3, 1) := dB_law_45.2.1.2.2
theorem dL_law_1046 : decode cL_law 1046 = .ok (.iconst 2, 1) := dB_law_45.2.2.1.1
theorem dL_law_1047 : decode cL_law 1047 = .ok (.iadd, 1) := dB_law_45.2.2.1.2
theorem dL_law_1048 : decode cL_law 1048 = .ok (.iaload, 1) := dB_law_45.2.2.2.1
theorem dL_law_1049 : decode cL_law 1049 = .ok (.aload_n 0, 1) := dB_law_45.2.2.2.2
theorem dB_law_46 : ((((decode cL_law 1050 = .ok (.iload_n 3, 1)) ∧ (decode cL_law 1051 = .ok (.iconst 3, 1))) ∧ ((decode cL_law 1052 = .ok (.iadd, 1)) ∧ (decode cL_law 1053 = .ok (.iaload, 1)))) ∧ (((decode cL_law 1054 = .ok (.aload_n 0, 1)) ∧ (decode cL_law 1055 = .ok (.iload_n 3, 1))) ∧ ((decode cL_law 1056 = .ok (.iconst 4, 1)) ∧ (decode cL_law 1057 = .ok (.iadd, 1))))) ∧ ((((decode cL_law 1058 = .ok (.iaload, 1)) ∧ (decode cL_law 1059 = .ok (.aload_n 0, 1))) ∧ ((decode cL_law 1060 = .ok (.iload_n 3, 1)) ∧ (decode cL_law 1061 = .ok (.iconst 5, 1)))) ∧ (((decode cL_law 1062 = .ok (.iadd, 1)) ∧ (decode cL_law 1063 = .ok (.iaload, 1))) ∧ ((decode cL_law 1064 = .ok (.i2l, 1)) ∧ (decode cL_law 1065 = .ok (.bipush 32, 2))))) := by first | decide +kernel | ((repeat' apply And.intro) <;> decide +kernel)
theorem dL_law_1050 : decode cL_law 1050 = .ok (.iload_n 3, 1) := dB_law_46.1.1.1.1
theorem dL_law_1051 : decode cL_law 1051 = .ok (.iconst 3, 1) := dB_law_46.1.1.1.2
theorem dL_law_1052 : decode cL_law 1052 = .ok (.iadd, 1) := dB_law_46.1.1.2.1
theorem dL_law_1053 : decode cL_law 1053 = .ok (.iaload, 1) := dB_law_46.1.1.2.2
theorem dL_law_1054 : decode cL_law 1054 = .ok (.aload_n 0, 1) := dB_law_46.1.2.1.1
theorem dL_law_1055 : decode cL_law 1055 = .ok (.iload_n 3, 1) := dB_law_46.1.2.1.2
theorem dL_law_1056 : decode cL_law 1056 = .ok (.iconst 4, 1) := dB_law_46.1.2.2.1
theorem dL_law_1057 : decode cL_law 1057 = .ok (.iadd, 1) := dB_law_46.1.2.2.2
theorem dL_law_1058 : decode cL_law 1058 = .ok (.iaload, 1) := dB_law_46.2.1.1.1
theorem dL_law_1059 : decode cL_law 1059 = .ok (.aload_n 0, 1) := dB_law_46.2.1.1.2
theorem dL_law_1060 : decode cL_law 1060 = .ok (.iload_n 3, 1) := dB_law_46.2.1.2.1
theorem dL_law_1061 : decode cL_law 1061 = .ok (.iconst 5, 1) := dB_law_46.2.1.2.2
theorem dL_law_1062 : decode cL_law 1062 = .ok (.iadd, 1) := dB_law_46.2.2.1.1
theorem dL_law_1063 : decode cL_law 1063 = .ok (.iaload, 1) := dB_law_46.2.2.1.2
theorem dL_law_1064 : decode cL_law 1064 = .ok (.i2l, 1) := dB_law_46.2.2.2.1
theorem dL_law_1065 : decode cL_law 1065 = .ok (.bipush 32, 2) := dB_law_46.2.2.2.2
theorem dB_law_47 : ((((decode cL_law 1067 = .ok (.lshl, 1)) ∧ (decode cL_law 1068 = .ok (.aload_n 0, 1))) ∧ ((decode cL_law 1069 = .ok (.iload_n 3, 1)) ∧ (decode cL_law 1070 = .ok (.bipush 6, 2)))) ∧ (((decode cL_law 1072 = .ok (.iadd, 1)) ∧ (decode cL_law 1073 = .ok (.iaload, 1))) ∧ ((decode cL_law 1074 = .ok (.i2l, 1)) ∧ (decode cL_law 1075 = .ok (.ldc2_w 122, 3))))) ∧ ((((decode cL_law 1078 = .ok (.land, 1)) ∧ (decode cL_law 1079 = .ok (.lor, 1))) ∧ ((decode cL_law 1080 = .ok (.invokevirtual 124, 3)) ∧ (decode cL_law 1083 = .ok (.pop, 1)))) ∧ (((decode cL_law 1084 = .ok (.aload_n 2, 1)) ∧ (decode cL_law 1085 = .ok (.aload_n 0, 1))) ∧ ((decode cL_law 1086 = .ok (.iload_n 3, 1)) ∧ (decode cL_law 1087 = .ok (.iconst 1, 1))))) := by first | decide +kernel | ((repeat' apply And.intro) <;> decide +kernel)
theorem dL_law_1067 : decode cL_law 1067 = .ok (.lshl, 1) := dB_law_47.1.1.1.1
theorem dL_law_1068 : decode cL_law 1068 = .ok (.aload_n 0, 1) := dB_law_47.1.1.1.2
theorem dL_law_1069 : decode cL_law 1069 = .ok (.iload_n 3, 1) := dB_law_47.1.1.2.1
theorem dL_law_1070 : decode cL_law 1070 = .ok (.bipush 6, 2) := dB_law_47.1.1.2.2
theorem dL_law_1072 : decode cL_law 1072 = .ok (.iadd, 1) := dB_law_47.1.2.1.1
theorem dL_law_1073 : decode cL_law 1073 = .ok (.iaload, 1) := dB_law_47.1.2.1.2
theorem dL_law_1074 : decode cL_law 1074 = .ok (.i2l, 1) := dB_law_47.1.2.2.1
theorem dL_law_1075 : decode cL_law 1075 = .ok (.ldc2_w 122, 3) := dB_law_47.1.2.2.2
theorem dL_law_1078 : decode cL_law 1078 = .ok (.land, 1) := dB_law_47.2.1.1.1
theorem dL_law_1079 : decode cL_law 1079 = .ok (.lor, 1) := dB_law_47.2.1.1.2
theorem dL_law_1080 : decode cL_law 1080 = .ok (.invokevirtual 124, 3) := dB_law_47.2.1.2.1
theorem dL_law_1083 : decode cL_law 1083 = .ok (.pop, 1) := dB_law_47.2.1.2.2
theorem dL_law_1084 : decode cL_law 1084 = .ok (.aload_n 2, 1) := dB_law_47.2.2.1.1
theorem dL_law_1085 : decode cL_law 1085 = .ok (.aload_n 0, 1) := dB_law_47.2.2.1.2
theorem dL_law_1086 : decode cL_law 1086 = .ok (.iload_n 3, 1) := dB_law_47.2.2.2.1
theorem dL_law_1087 : decode cL_law 1087 = .ok (.iconst 1, 1) := dB_law_47.2.2.2.2