theorem zpT841h59 : zhead zpZ zpRS zpMT [zpC775, zpC779, zpC780, zpC781, zpC782, zpC783, zpC784, zpC785, zpC786, zpC787, zpC788, zpC789, zpC790, zpC791, zpC792, zpC793, zpC794, zpC795, zpC796, zpC797, zpC798, zpC799, zpC800, zpC801, zpC802, zpC803, zpC804, zpC805, zpC806, zpC807, zpC808, zpC809, zpC810, zpC811, zpC812, zpC813, zpC814, zpC815, zpC816, zpC817, zpC818, zpC819, zpC820, zpC821, zpC822, zpC823, zpC824, zpC825, zpC826, zpC827, zpC828, zpC829, zpC830, zpC831, zpC832, zpC833, zpC834, zpC835, zpC836, zpC837, zpC838, zpC839, zpC840] zpC841 zpP0 1 zpA841 [(13, 5, 0, 60)] 3000 zpA841h59 = true := by decide +kernel
theorem zpT841h60 : zhead zpZ zpRS zpMT [zpC775, zpC779, zpC780, zpC781, zpC782, zpC783, zpC784, zpC785, zpC786, zpC787, zpC788, zpC789, zpC790, zpC791, zpC792, zpC793, zpC794, zpC795, zpC796, zpC797, zpC798, zpC799, zpC800, zpC801, zpC802, zpC803, zpC804, zpC805, zpC806, zpC807, zpC808, zpC809, zpC810, zpC811, zpC812, zpC813, zpC814, zpC815, zpC816, zpC817, zpC818, zpC819, zpC820, zpC821, zpC822, zpC823, zpC824, zpC825, zpC826, zpC827, zpC828, zpC829, zpC830, zpC831, zpC832, zpC833, zpC834, zpC835, zpC836, zpC837, zpC838, zpC839, zpC840] zpC841 zpP0 1 zpA841 [(13, 5, 0, 60)] 3000 zpA841h60 = true := by decide +kernel
theorem zpT841h61 : zhead zpZ zpRS zpMT [zpC775, zpC779, zpC780, zpC781, zpC782, zpC783, zpC784, zpC785, zpC786, zpC787, zpC788, zpC789, zpC790, zpC791, zpC792, zpC793, zpC794, zpC795, zpC796, zpC797, zpC798, zpC799, zpC800, zpC801, zpC802, zpC803, zpC804, zpC805, zpC806, zpC807, zpC808, zpC809, zpC810, zpC811, zpC812, zpC813, zpC814, zpC815, zpC816, zpC817, zpC818, zpC819, zpC820, zpC821, zpC822, zpC823, zpC824, zpC825, zpC826, zpC827, zpC828, zpC829, zpC830, zpC831, zpC832, zpC833, zpC834, zpC835, zpC836, zpC837, zpC838, zpC839, zpC840] zpC841 zpP0 1 zpA841 [(13, 5, 0, 60)] 3000 zpA841h61 = true := by decide +kernel
theorem zpT841 : zcheck zpZ zpRS zpMT [zpC775, zpC779, zpC780, zpC781, zpC782, zpC783, zpC784, zpC785, zpC786, zpC787, zpC788, zpC789, zpC790, zpC791, zpC792, zpC793, zpC794, zpC795, zpC796, zpC797, zpC798, zpC799, zpC800, zpC801, zpC802, zpC803, zpC804, zpC805, zpC806, zpC807, zpC808, zpC809, zpC810, zpC811, zpC812, zpC813, zpC814, zpC815, zpC816, zpC817, zpC818, zpC819, zpC820, zpC821, zpC822, zpC823, zpC824, zpC825, zpC826, zpC827, zpC828, zpC829, zpC830, zpC831, zpC832, zpC833, zpC834, zpC835, zpC836, zpC837, zpC838, zpC839, zpC840] zpC841 zpP0 1 zpA841 [(13, 5, 0, 60)] 3000 = true := zcheck_of zpT841e (zall_cons zpT841h0 (zall_cons zpT841h1 (zall_cons zpT841h2 (zall_cons zpT841h3 (zall_cons zpT841h4 (zall_cons zpT841h5 (zall_cons zpT841h6 (zall_cons zpT841h7 (zall_cons zpT841h8 (zall_cons zpT841h9 (zall_cons zpT841h10 (zall_cons zpT841h11 (zall_cons zpT841h12 (zall_cons zpT841h13 (zall_cons zpT841h14 (zall_cons zpT841h15 (zall_cons zpT841h16 (zall_cons zpT841h17 (zall_cons zpT841h18 (zall_cons zpT841h19 (zall_cons zpT841h20 (zall_cons zpT841h21 (zall_cons zpT841h22 (zall_cons zpT841h23 (zall_cons zpT841h24 (zall_cons zpT841h25 (zall_cons zpT841h26 (zall_cons zpT841h27 (zall_cons zpT841h28 (zall_cons zpT841h29 (zall_cons zpT841h30 (zall_cons zpT841h31 (zall_cons zpT841h32 (zall_cons zpT841h33 (zall_cons zpT841h34 (zall_cons zpT841h35 (zall_cons zpT841h36 (zall_cons zpT841h37 (zall_cons zpT841h38 (zall_cons zpT841h39 (zall_cons zpT841h40 (zall_cons zpT841h41 (zall_cons zpT841h42 (zall_cons zpT841h43 (zall_cons zpT841h44 (zall_cons zpT841h45 (zall_cons zpT841h46 (zall_cons zpT841h47 (zall_cons zpT841h48 (zall_cons zpT841h49 (zall_cons zpT841h50 (zall_cons zpT841h51 (zall_cons zpT841h52 (zall_cons zpT841h53 (zall_cons zpT841h54 (zall_cons zpT841h55 (zall_cons zpT841h56 (zall_cons zpT841h57 (zall_cons zpT841h58 (zall_cons zpT841h59 (zall_cons zpT841h60 (zall_cons zpT841h61 (zall_nil))))))))))))))))))))))))))))))))))))))))))))))))))))))))))))))) (by decide +kernel)
theorem zpT842 : zcheck zpZ zpRS zpMT [] zpC842 zpP6 1 zpA842 [] 3000 = true := by decide +kernel
theorem zpT843 : zcheck zpZ zpRS zpMT [zpC3] zpC843 zpP0 2 zpA843 [] 3000 = true := by decide +kernel
theorem zpT844 : zcheck zpZ zpRS zpMT [zpC3, zpC74, zpC591, zpC632, zpC842, zpC843] zpC844 zpP0 1 zpA844 [] 3000 = true := by decide +kernel
theorem zpT845 : zcheck zpZ zpRS zpMT [] zpC845 zpP0 1 zpA845 [] 3000 = true := by decide +kernel
theorem zpT846 : zcheck zpZ zpRS zpMT [] zpC846 zpP12 2 zpA846 [] 3000 = true := by decide +kernel
theorem zpT847 : zcheck zpZ zpRS zpMT [] zpC847 zpP12 2 zpA847 [] 3000 = true := by decide +kernel
theorem zpT848 : zcheck zpZ zpRS zpMT [] zpC848 zpP12 2 zpA848 [] 3000 = true := by decide +kernel
theorem zpT849 : zcheck zpZ zpRS zpMT [zpC846, zpC847, zpC848] zpC849 zpP12 1 zpA849 [] 3000 = true := by decide +kernel
theorem zpT850 : zcheck zpZ zpRS zpMT [zpC846, zpC847, zpC848] zpC850 zpP12 1 zpA850 [] 3000 = true := by decide +kernel
theorem zpT851 : zcheck zpZ zpRS zpMT [zpC846, zpC847, zpC848] zpC851 zpP12 1 zpA851 [] 3000 = true := by decide +kernel
theorem zpT852 : zcheck zpZ zpRS zpMT [zpC846, zpC847, zpC848] zpC852 zpP12 1 zpA852 [] 3000 = true := by decide +kernel
theorem zpT853 : zcheck zpZ zpRS zpMT [zpC846, zpC847, zpC848] zpC853 zpP12 1 zpA853 [] 3000 = true := by decide +kernel
theorem zpT854 : zcheck zpZ zpRS zpMT [zpC846, zpC847, zpC848] zpC854 zpP12 1 zpA854 [] 3000 = true := by decide +kernel
theorem zpT855 : zcheck zpZ zpRS zpMT [zpC846, zpC847, zpC848] zpC855 zpP12 1 zpA855 [] 3000 = true := by decide +kernel
theorem zpT856 : zcheck zpZ zpRS zpMT [zpC846, zpC847, zpC848] zpC856 zpP12 1 zpA856 [] 3000 = true := by decide +kernel
theorem zpT857 : zcheck zpZ zpRS zpMT [zpC846, zpC847, zpC848] zpC857 zpP12 1 zpA857 [] 3000 = true := by decide +kernel
theorem zpT858 : zcheck zpZ zpRS zpMT [zpC846, zpC847, zpC848] zpC858 zpP12 1 zpA858 [] 3000 = true := by decide +kernel
theorem zpT859 : zcheck zpZ zpRS zpMT [zpC846, zpC847, zpC848] zpC859 zpP12 1 zpA859 [] 3000 = true := by decide +kernel
theorem zpT860 : zcheck zpZ zpRS zpMT [zpC846, zpC847, zpC848] zpC860 zpP12 1 zpA860 [] 3000 = true := by decide +kernel
theorem zpT861 : zcheck zpZ zpRS zpMT [zpC846, zpC847, zpC848] zpC861 zpP12 1 zpA861 [] 3000 = true := by decide +kernel
theorem zpT862 : zcheck zpZ zpRS zpMT [zpC846, zpC847, zpC848] zpC862 zpP12 1 zpA862 [] 3000 = true := by decide +kernel
theorem zpT863 : zcheck zpZ zpRS zpMT [zpC846, zpC847, zpC848] zpC863 zpP12 1 zpA863 [] 3000 = true := by decide +kernel
theorem zpT864 : zcheck zpZ zpRS zpMT [zpC846, zpC847, zpC848] zpC864 zpP12 1 zpA864 [] 3000 = true := by decide +kernel
theorem zpT865 : zcheck zpZ zpRS zpMT [zpC846, zpC847, zpC848] zpC865 zpP12 1 zpA865 [] 3000 = true := by decide +kernel
theorem zpT866 : zcheck zpZ zpRS zpMT [zpC846, zpC847, zpC848] zpC866 zpP12 1 zpA866 [] 3000 = true := by decide +kernel
theorem zpT867 : zcheck zpZ zpRS zpMT [zpC846, zpC847, zpC848] zpC867 zpP12 1 zpA867 [] 3000 = true := by decide +kernel
theorem zpT868 : zcheck zpZ zpRS zpMT [zpC846, zpC847, zpC848] zpC868 zpP12 1 zpA868 [] 3000 = true := by decide +kernel
theorem zpT869 : zcheck zpZ zpRS zpMT [zpC846, zpC847, zpC848] zpC869 zpP12 1 zpA869 [] 3000 = true := by decide +kernel
theorem zpT870 : zcheck zpZ zpRS zpMT [] zpC870 zpP12 1 zpA870 [] 3000 = true := by decide +kernel
theorem zpT871 : zcheck zpZ zpRS zpMT [] zpC871 zpP12 1 zpA871 [] 3000 = true := by decide +kernel
theorem zpT872 : zcheck zpZ zpRS zpMT [] zpC872 zpP12 1 zpA872 [] 3000 = true := by decide +kernel
theorem zpT873 : zcheck zpZ zpRS zpMT [] zpC873 zpP12 1 zpA873 [] 3000 = true := by decide +kernel
theorem zpT874 : zcheck zpZ zpRS zpMT [] zpC874 zpP12 1 zpA874 [] 3000 = true := by decide +kernel
theorem zpT875 : zcheck zpZ zpRS zpMT [] zpC875 zpP12 1 zpA875 [] 3000 = true := by decide +kernel
theorem zpT876 : zcheck zpZ zpRS zpMT [] zpC876 zpP12 1 zpA876 [] 3000 = true := by decide +kernel
theorem zpT877 : zcheck zpZ zpRS zpMT [] zpC877 zpP12 1 zpA877 [] 3000 = true := by decide +kernel
theorem zpT878 : zcheck zpZ zpRS zpMT [] zpC878 zpP12 1 zpA878 [] 3000 = true := by decide +kernel
theorem zpT879 : zcheck zpZ zpRS zpMT [] zpC879 zpP12 1 zpA879 [] 3000 = true := by decide +kernel
theorem zpT880 : zcheck zpZ zpRS zpMT [] zpC880 zpP12 1 zpA880 [] 3000 = true := by decide +kernel
theorem zpT881 : zcheck zpZ zpRS zpMT [] zpC881 zpP12 1 zpA881 [] 3000 = true := by decide +kernel
theorem zpT882 : zcheck zpZ zpRS zpMT [] zpC882 zpP12 1 zpA882 [] 3000 = true := by decide +kernel
theorem zpT883 : zcheck zpZ zpRS zpMT [] zpC883 zpP12 1 zpA883 [] 3000 = true := by decide +kernel
theorem zpT884 : zcheck zpZ zpRS zpMT [] zpC884 zpP12 1 zpA884 [] 3000 = true := by decide +kernel
theorem zpT885 : zcheck zpZ zpRS zpMT [] zpC885 zpP12 1 zpA885 [] 3000 = true := by decide +kernel
theorem zpT886 : zcheck zpZ zpRS zpMT [] zpC886 zpP12 1 zpA886 [] 3000 = true := by decide +kernel
theorem zpT887 : zcheck zpZ zpRS zpMT [] zpC887 zpP12 1 zpA887 [] 3000 = true := by decide +kernel
theorem zpT888 : zcheck zpZ zpRS zpMT [] zpC888 zpP12 1 zpA888 [] 3000 = true := by decide +kernel
theorem zpT889 : zcheck zpZ zpRS zpMT [] zpC889 zpP12 1 zpA889 [] 3000 = true := by decide +kernel
theorem zpT890 : zcheck zpZ zpRS zpMT [] zpC890 zpP12 1 zpA890 [] 3000 = true := by decide +kernel
theorem zpT891 : zcheck zpZ zpRS zpMT [] zpC891 zpP12 1 zpA891 [] 3000 = true := by decide +kernel
theorem zpT892 : zcheck zpZ zpRS zpMT [] zpC892 zpP12 1 zpA892 [] 3000 = true := by decide +kernel
theorem zpT893 : zcheck zpZ zpRS zpMT [] zpC893 zpP12 1 zpA893 [] 3000 = true := by decide +kernel
theorem zpT894 : zcheck zpZ zpRS zpMT [] zpC894 zpP12 1 zpA894 [] 3000 = true := by decide +kernel
theorem zpT895 : zcheck zpZ zpRS zpMT [] zpC895 zpP12 1 zpA895 [] 3000 = true := by decide +kernel
theorem zpT896 : zcheck zpZ zpRS zpMT [] zpC896 zpP12 2 zpA896 [] 3000 = true := by decide +kernel
theorem zpT897 : zcheck zpZ zpRS zpMT [zpC896] zpC897 zpP12 2 zpA897 [] 3000 = true := by decide +kernel
theorem zpT898 : zcheck zpZ zpRS zpMT [zpC897] zpC898 zpP12 1 zpA898 [] 3000 = true := by decide +kernel
theorem zpT899 : zcheck zpZ zpRS zpMT [zpC897] zpC899 zpP12 1 zpA899 [] 3000 = true := by decide +kernel
theorem zpT900 : zcheck zpZ zpRS zpMT [zpC897] zpC900 zpP12 1 zpA900 [] 3000 = true := by decide +kernel
theorem zpT901 : zcheck zpZ zpRS zpMT [] zpC901 zpP12 0 zpA901 [] 3000 = true := by decide +kernel
theorem zpT902 : zcheck zpZ zpRS zpMT [zpC901] zpC902 zpP12 1 zpA902 [] 3000 = true := by decide +kernel
theorem zpT903 : zcheck zpZ zpRS zpMT [] zpC903 zpP12 0 zpA903 [] 3000 = true := by decide +kernel
theorem zpT904 : zcheck zpZ zpRS zpMT [] zpC904 zpP12 0 zpA904 [] 3000 = true := by decide +kernel
theorem zpT905 : zcheck zpZ zpRS zpMT [zpC904] zpC905 zpP12 1 zpA905 [] 3000 = true := by decide +kernel
theorem zpT906 : zcheck zpZ zpRS zpMT [zpC903, zpC905] zpC906 zpP12 1 zpA906 [] 3000 = true := by decide +kernel
theorem zpT907 : zcheck zpZ zpRS zpMT [] zpC907 zpP12 0 zpA907 [] 3000 = true := by decide +kernel
theorem zpT908 : zcheck zpZ zpRS zpMT [zpC907] zpC908 zpP12 1 zpA908 [] 3000 = true := by decide +kernel
theorem zpT909 : zcheck zpZ zpRS zpMT [] zpC909 zpP12 0 zpA909 [] 3000 = true := by decide +kernel
theorem zpT910 : zcheck zpZ zpRS zpMT [] zpC910 zpP12 0 zpA910 [] 3000 = true := by decide +kernel
theorem zpT911 : zcheck zpZ zpRS zpMT [zpC910] zpC911 zpP12 1 zpA911 [] 3000 = true := by decide +kernel
theorem zpT912 : zcheck zpZ zpRS zpMT [] zpC912 zpP12 0 zpA912 [] 3000 = true := by decide +kernel
theorem zpT913 : zcheck zpZ zpRS zpMT [] zpC913 zpP12 0 zpA913 [] 3000 = true := by decide +kernel
theorem zpT914 : zcheck zpZ zpRS zpMT [zpC913] zpC914 zpP12 1 zpA914 [] 3000 = true := by decide +kernel
theorem zpT915 : zcheck zpZ zpRS zpMT [zpC912, zpC914] zpC915 zpP12 1 zpA915 [] 3000 = true := by decide +kernel
theorem zpT916 : zcheck zpZ zpRS zpMT [zpC909, zpC911, zpC915] zpC916 zpP12 1 zpA916 [] 3000 = true := by decide +kernel
theorem zpT917 : zcheck zpZ zpRS zpMT [zpC897, zpC902, zpC906, zpC908, zpC916] zpC917 zpP12 1 zpA917 [] 3000 = true := by decide +kernel
theorem zpT918 : zcheck zpZ zpRS zpMT [zpC901] zpC918 zpP12 1 zpA918 [] 3000 = true := by decide +kernel
theorem zpT919 : zcheck zpZ zpRS zpMT [] zpC919 zpP12 0 zpA919 [] 3000 = true := by decide +kernel
theorem zpT920 : zcheck zpZ zpRS zpMT [zpC913] zpC920 zpP12 1 zpA920 [] 3000 = true := by decide +kernel
theorem zpT921 : zcheck zpZ zpRS zpMT [zpC919, zpC920] zpC921 zpP12 1 zpA921 [] 3000 = true := by decide +kernel
theorem zpT922 : zcheck zpZ zpRS zpMT [zpC903, zpC921] zpC922 zpP12 1 zpA922 [] 3000 = true := by decide +kernel
theorem zpT923 : zcheck zpZ zpRS zpMT [] zpC923 zpP12 0 zpA923 [] 3000 = true := by decide +kernel
theorem zpT924 : zcheck zpZ zpRS zpMT [zpC904] zpC924 zpP12 1 zpA924 [] 3000 = true := by decide +kernel
theorem zpT925 : zcheck zpZ zpRS zpMT [zpC923, zpC924] zpC925 zpP12 1 zpA925 [] 3000 = true := by decide +kernel
theorem zpT926 : zcheck zpZ zpRS zpMT [] zpC926 zpP12 0 zpA926 [] 3000 = true := by decide +kernel
theorem zpT927 : zcheck zpZ zpRS zpMT [zpC926] zpC927 zpP12 1 zpA927 [] 3000 = true := by decide +kernel
theorem zpT928 : zcheck zpZ zpRS zpMT [] zpC928 zpP12 0 zpA928 [] 3000 = true := by decide +kernel
theorem zpT929 : zcheck zpZ zpRS zpMT [] zpC929 zpP12 0 zpA929 [] 3000 = true := by decide +kernel
theorem zpT930 : zcheck zpZ zpRS zpMT [zpC929] zpC930 zpP12 1 zpA930 [] 3000 = true := by decide +kernel
theorem zpT931 : zcheck zpZ zpRS zpMT [zpC928, zpC930] zpC931 zpP12 1 zpA931 [] 3000 = true := by decide +kernel
theorem zpT932 : zcheck zpZ zpRS zpMT [zpC912, zpC931] zpC932 zpP12 1 zpA932 [] 3000 = true := by decide +kernel
theorem zpT933 : zcheck zpZ zpRS zpMT [zpC909, zpC927, zpC932] zpC933 zpP12 1 zpA933 [] 3000 = true := by decide +kernel
theorem zpT934 : zcheck zpZ zpRS zpMT [zpC897, zpC918, zpC922, zpC925, zpC933] zpC934 zpP12 1 zpA934 [] 3000 = true := by decide +kernel
theorem zpT935 : zcheck zpZ zpRS zpMT [] zpC935 zpP12 0 zpA935 [] 3000 = true := by decide +kernel
theorem zpT936 : zcheck zpZ zpRS zpMT [] zpC936 zpP12 0 zpA936 [] 3000 = true := by decide +kernel
theorem zpT937 : zcheck zpZ zpRS zpMT [zpC936] zpC937 zpP12 1 zpA937 [] 3000 = true := by decide +kernel
theorem zpT938 : zcheck zpZ zpRS zpMT [zpC935, zpC937] zpC938 zpP12 1 zpA938 [] 3000 = true := by decide +kernel
theorem zpT939 : zcheck zpZ zpRS zpMT [zpC904] zpC939 zpP12 1 zpA939 [] 3000 = true := by decide +kernel
theorem zpT940 : zcheck zpZ zpRS zpMT [zpC903, zpC939] zpC940 zpP12 1 zpA940 [] 3000 = true := by decide +kernel
theorem zpT941 : zcheck zpZ zpRS zpMT [zpC907] zpC941 zpP12 1 zpA941 [] 3000 = true := by decide +kernel
theorem zpT942 : zcheck zpZ zpRS zpMT [] zpC942 zpP12 0 zpA942 [] 3000 = true := by decide +kernel
theorem zpT943 : zcheck zpZ zpRS zpMT [zpC926] zpC943 zpP12 1 zpA943 [] 3000 = true := by decide +kernel
theorem zpT944 : zcheck zpZ zpRS zpMT [zpC942, zpC943] zpC944 zpP12 1 zpA944 [] 3000 = true := by decide +kernel
theorem zpT945 : zcheck zpZ zpRS zpMT [zpC913] zpC945 zpP12 1 zpA945 [] 3000 = true := by decide +kernel
theorem zpT946 : zcheck zpZ zpRS zpMT [zpC912, zpC945] zpC946 zpP12 1 zpA946 [] 3000 = true := by decide +kernel
theorem zpT947 : zcheck zpZ zpRS zpMT [zpC909, zpC944, zpC946] zpC947 zpP12 1 zpA947 [] 3000 = true := by decide +kernel
theorem zpT948 : zcheck zpZ zpRS zpMT [zpC897, zpC938, zpC940, zpC941, zpC947] zpC948 zpP12 1 zpA948 [] 3000 = true := by decide +kernel
theorem zpT949 : zcheck zpZ zpRS zpMT [zpC901] zpC949 zpP12 1 zpA949 [] 3000 = true := by decide +kernel
theorem zpT950 : zcheck zpZ zpRS zpMT [] zpC950 zpP12 0 zpA950 [] 3000 = true := by decide +kernel
theorem zpT951 : zcheck zpZ zpRS zpMT [zpC929] zpC951 zpP12 1 zpA951 [] 3000 = true := by decide +kernel
theorem zpT952 : zcheck zpZ zpRS zpMT [zpC928, zpC951] zpC952 zpP12 1 zpA952 [] 3000 = true := by decide +kernel
theorem zpT953 : zcheck zpZ zpRS zpMT [zpC912, zpC952] zpC953 zpP12 1 zpA953 [] 3000 = true := by decide +kernel
theorem zpT954 : zcheck zpZ zpRS zpMT [zpC950, zpC953] zpC954 zpP12 1 zpA954 [] 3000 = true := by decide +kernel
theorem zpT955 : zcheck zpZ zpRS zpMT [zpC904] zpC955 zpP12 1 zpA955 [] 3000 = true := by decide +kernel
theorem zpT956 : zcheck zpZ zpRS zpMT [zpC923, zpC955] zpC956 zpP12 1 zpA956 [] 3000 = true := by decide +kernel
theorem zpT957 : zcheck zpZ zpRS zpMT [] zpC957 zpP12 0 zpA957 [] 3000 = true := by decide +kernel
theorem zpT958 : zcheck zpZ zpRS zpMT [zpC957] zpC958 zpP12 1 zpA958 [] 3000 = true := by decide +kernel
theorem zpT959 : zcheck zpZ zpRS zpMT [] zpC959 zpP12 0 zpA959 [] 3000 = true := by decide +kernel
theorem zpT960 : zcheck zpZ zpRS zpMT [] zpC960 zpP12 0 zpA960 [] 3000 = true := by decide +kernel
theorem zpT961 : zcheck zpZ zpRS zpMT [] zpC961 zpP12 0 zpA961 [] 3000 = true := by decide +kernel
theorem zpT962 : zcheck zpZ zpRS zpMT [] zpC962 zpP12 0 zpA962 [] 3000 = true := by decide +kernel
theorem zpT963 : zcheck zpZ zpRS zpMT [zpC962] zpC963 zpP12 1 zpA963 [] 3000 = true := by decide +kernel
theorem zpT964 : zcheck zpZ zpRS zpMT [zpC961, zpC963] zpC964 zpP12 1 zpA964 [] 3000 = true := by decide +kernel
theorem zpT965 : zcheck zpZ zpRS zpMT [zpC960, zpC964] zpC965 zpP12 1 zpA965 [] 3000 = true := by decide +kernel
theorem zpT966 : zcheck zpZ zpRS zpMT [zpC959, zpC965] zpC966 zpP12 1 zpA966 [] 3000 = true := by decide +kernel
theorem zpT967 : zcheck zpZ zpRS zpMT [zpC909, zpC958, zpC966] zpC967 zpP12 1 zpA967 [] 3000 = true := by decide +kernel
theorem zpT968 : zcheck zpZ zpRS zpMT [zpC897, zpC949, zpC954, zpC956, zpC967] zpC968 zpP12 1 zpA968 [] 3000 = true := by decide +kernel
theorem zpT969 : zcheck zpZ zpRS zpMT [zpC901] zpC969 zpP12 1 zpA969 [] 3000 = true := by decide +kernel
theorem zpT970 : zcheck zpZ zpRS zpMT [] zpC970 zpP12 0 zpA970 [] 3000 = true := by decide +kernel
theorem zpT971 : zcheck zpZ zpRS zpMT [zpC929] zpC971 zpP12 1 zpA971 [] 3000 = true := by decide +kernel
theorem zpT972 : zcheck zpZ zpRS zpMT [zpC928, zpC971] zpC972 zpP12 1 zpA972 [] 3000 = true := by decide +kernel
theorem zpT973 : zcheck zpZ zpRS zpMT [zpC970, zpC972] zpC973 zpP12 1 zpA973 [] 3000 = true := by decide +kernel
theorem zpT974 : zcheck zpZ zpRS zpMT [zpC903, zpC973] zpC974 zpP12 1 zpA974 [] 3000 = true := by decide +kernel
theorem zpT975 : zcheck zpZ zpRS zpMT [] zpC975 zpP12 0 zpA975 [] 3000 = true := by decide +kernel
theorem zpT976 : zcheck zpZ zpRS zpMT [zpC913] zpC976 zpP12 1 zpA976 [] 3000 = true := by decide +kernel
theorem zpT977 : zcheck zpZ zpRS zpMT [zpC919, zpC976] zpC977 zpP12 1 zpA977 [] 3000 = true := by decide +kernel
theorem zpT978 : zcheck zpZ zpRS zpMT [zpC975, zpC977] zpC978 zpP12 1 zpA978 [] 3000 = true := by decide +kernel
theorem zpT979 : zcheck zpZ zpRS zpMT [zpC957] zpC979 zpP12 1 zpA979 [] 3000 = true := by decide +kernel
theorem zpT980 : zcheck zpZ zpRS zpMT [] zpC980 zpP12 0 zpA980 [] 3000 = true := by decide +kernel
theorem zpT981 : zcheck zpZ zpRS zpMT [zpC962] zpC981 zpP12 1 zpA981 [] 3000 = true := by decide +kernel
theorem zpT982 : zcheck zpZ zpRS zpMT [zpC961, zpC981] zpC982 zpP12 1 zpA982 [] 3000 = true := by decide +kernel
theorem zpT983 : zcheck zpZ zpRS zpMT [zpC980, zpC982] zpC983 zpP12 1 zpA983 [] 3000 = true := by decide +kernel
theorem zpT984 : zcheck zpZ zpRS zpMT [zpC912, zpC983] zpC984 zpP12 1 zpA984 [] 3000 = true := by decide +kernel
theorem zpT985 : zcheck zpZ zpRS zpMT [zpC909, zpC979, zpC984] zpC985 zpP12 1 zpA985 [] 3000 = true := by decide +kernel
theorem zpT986 : zcheck zpZ zpRS zpMT [zpC897, zpC969, zpC974, zpC978, zpC985] zpC986 zpP12 1 zpA986 [] 3000 = true := by decide +kernel
theorem zpT987 : zcheck zpZ zpRS zpMT [zpC901] zpC987 zpP12 1 zpA987 [] 3000 = true := by decide +kernel
theorem zpT988 : zcheck zpZ zpRS zpMT [zpC904] zpC988 zpP12 1 zpA988 [] 3000 = true := by decide +kernel
theorem zpT989 : zcheck zpZ zpRS zpMT [zpC903, zpC988] zpC989 zpP12 1 zpA989 [] 3000 = true := by decide +kernel
theorem zpT990 : zcheck zpZ zpRS zpMT [zpC907] zpC990 zpP12 1 zpA990 [] 3000 = true := by decide +kernel
theorem zpT991 : zcheck zpZ zpRS zpMT [] zpC991 zpP12 0 zpA991 [] 3000 = true := by decide +kernel
theorem zpT992 : zcheck zpZ zpRS zpMT [] zpC992 zpP12 0 zpA992 [] 3000 = true := by decide +kernel
theorem zpT993 : zcheck zpZ zpRS zpMT [zpC926] zpC993 zpP12 1 zpA993 [] 3000 = true := by decide +kernel
theorem zpT994 : zcheck zpZ zpRS zpMT [zpC929] zpC994 zpP12 1 zpA994 [] 3000 = true := by decide +kernel
theorem zpT995 : zcheck zpZ zpRS zpMT [zpC960, zpC994] zpC995 zpP12 1 zpA995 [] 3000 = true := by decide +kernel
