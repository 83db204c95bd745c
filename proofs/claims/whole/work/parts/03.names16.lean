theorem dL_law_3778 : decode cL_law 3778 = .ok (.lcmp, 1) := by decide +kernel
theorem dL_law_3779 : decode cL_law 3779 = .ok (.ifCond .eq 5, 3) := by decide +kernel
theorem dL_law_3782 : decode cL_law 3782 = .ok (.iconst 0, 1) := by decide +kernel
theorem dL_law_3783 : decode cL_law 3783 = .ok (.ireturn, 1) := by decide +kernel
theorem dL_law_3784 : decode cL_law 3784 = .ok (.goto 449, 3) := by decide +kernel
theorem dL_law_3787 : decode cL_law 3787 = .ok (.aload_n 1, 1) := by decide +kernel
theorem dL_law_3788 : decode cL_law 3788 = .ok (.aload_n 0, 1) := by decide +kernel
theorem dL_law_3789 : decode cL_law 3789 = .ok (.iload 4, 2) := by decide +kernel
theorem dL_law_3791 : decode cL_law 3791 = .ok (.iconst 1, 1) := by decide +kernel
theorem dL_law_3792 : decode cL_law 3792 = .ok (.iadd, 1) := by decide +kernel
theorem dL_law_3793 : decode cL_law 3793 = .ok (.iaload, 1) := by decide +kernel
theorem dL_law_3794 : decode cL_law 3794 = .ok (.aload_n 0, 1) := by decide +kernel
theorem dL_law_3795 : decode cL_law 3795 = .ok (.iload 4, 2) := by decide +kernel
theorem dL_law_3797 : decode cL_law 3797 = .ok (.iconst 2, 1) := by decide +kernel
theorem dL_law_3798 : decode cL_law 3798 = .ok (.iadd, 1) := by decide +kernel
theorem dL_law_3799 : decode cL_law 3799 = .ok (.iaload, 1) := by decide +kernel
theorem dL_law_3800 : decode cL_law 3800 = .ok (.aload_n 0, 1) := by decide +kernel
theorem dL_law_3801 : decode cL_law 3801 = .ok (.iload 4, 2) := by decide +kernel
theorem dL_law_3803 : decode cL_law 3803 = .ok (.iconst 3, 1) := by decide +kernel
theorem dL_law_3804 : decode cL_law 3804 = .ok (.iadd, 1) := by decide +kernel
theorem dL_law_3805 : decode cL_law 3805 = .ok (.iaload, 1) := by decide +kernel
theorem dL_law_3806 : decode cL_law 3806 = .ok (.ifCond .eq 7, 3) := by decide +kernel
theorem dL_law_3809 : decode cL_law 3809 = .ok (.iconst 1, 1) := by decide +kernel
theorem dL_law_3810 : decode cL_law 3810 = .ok (.goto 4, 3) := by decide +kernel
theorem dL_law_3813 : decode cL_law 3813 = .ok (.iconst 0, 1) := by decide +kernel
theorem dL_law_3814 : decode cL_law 3814 = .ok (.aload_n 0, 1) := by decide +kernel
theorem dL_law_3815 : decode cL_law 3815 = .ok (.iload 4, 2) := by decide +kernel
theorem dL_law_3817 : decode cL_law 3817 = .ok (.iconst 4, 1) := by decide +kernel
theorem dL_law_3818 : decode cL_law 3818 = .ok (.iadd, 1) := by decide +kernel
theorem dL_law_3819 : decode cL_law 3819 = .ok (.iaload, 1) := by decide +kernel
theorem dL_law_3820 : decode cL_law 3820 = .ok (.aload_n 3, 1) := by decide +kernel
theorem dL_law_3821 : decode cL_law 3821 = .ok (.invokestatic 315, 3) := by decide +kernel
theorem dL_law_3824 : decode cL_law 3824 = .ok (.istore 5, 2) := by decide +kernel
theorem dL_law_3826 : decode cL_law 3826 = .ok (.aload_n 2, 1) := by decide +kernel
theorem dL_law_3827 : decode cL_law 3827 = .ok (.aload_n 0, 1) := by decide +kernel
theorem dL_law_3828 : decode cL_law 3828 = .ok (.iload 4, 2) := by decide +kernel
theorem dL_law_3830 : decode cL_law 3830 = .ok (.iconst 1, 1) := by decide +kernel
theorem dL_law_3831 : decode cL_law 3831 = .ok (.iadd, 1) := by decide +kernel
theorem dL_law_3832 : decode cL_law 3832 = .ok (.iaload, 1) := by decide +kernel
theorem dL_law_3833 : decode cL_law 3833 = .ok (.aload_n 0, 1) := by decide +kernel
theorem dL_law_3834 : decode cL_law 3834 = .ok (.iload 4, 2) := by decide +kernel
theorem dL_law_3836 : decode cL_law 3836 = .ok (.iconst 2, 1) := by decide +kernel
theorem dL_law_3837 : decode cL_law 3837 = .ok (.iadd, 1) := by decide +kernel
theorem dL_law_3838 : decode cL_law 3838 = .ok (.iaload, 1) := by decide +kernel
theorem dL_law_3839 : decode cL_law 3839 = .ok (.aload_n 0, 1) := by decide +kernel
theorem dL_law_3840 : decode cL_law 3840 = .ok (.iload 4, 2) := by decide +kernel
theorem dL_law_3842 : decode cL_law 3842 = .ok (.iconst 3, 1) := by decide +kernel
theorem dL_law_3843 : decode cL_law 3843 = .ok (.iadd, 1) := by decide +kernel
theorem dL_law_3844 : decode cL_law 3844 = .ok (.iaload, 1) := by decide +kernel
theorem dL_law_3845 : decode cL_law 3845 = .ok (.ifCond .eq 7, 3) := by decide +kernel
theorem dL_law_3848 : decode cL_law 3848 = .ok (.iconst 1, 1) := by decide +kernel
theorem dL_law_3849 : decode cL_law 3849 = .ok (.goto 4, 3) := by decide +kernel
theorem dL_law_3852 : decode cL_law 3852 = .ok (.iconst 0, 1) := by decide +kernel
theorem dL_law_3853 : decode cL_law 3853 = .ok (.aload_n 0, 1) := by decide +kernel
theorem dL_law_3854 : decode cL_law 3854 = .ok (.iload 4, 2) := by decide +kernel
theorem dL_law_3856 : decode cL_law 3856 = .ok (.iconst 4, 1) := by decide +kernel
theorem dL_law_3857 : decode cL_law 3857 = .ok (.iadd, 1) := by decide +kernel
theorem dL_law_3858 : decode cL_law 3858 = .ok (.iaload, 1) := by decide +kernel
theorem dL_law_3859 : decode cL_law 3859 = .ok (.invokevirtual 317, 3) := by decide +kernel
theorem dL_law_3862 : decode cL_law 3862 = .ok (.lstore 6, 2) := by decide +kernel
theorem dL_law_3864 : decode cL_law 3864 = .ok (.aload_n 2, 1) := by decide +kernel
theorem dL_law_3865 : decode cL_law 3865 = .ok (.invokevirtual 177, 3) := by decide +kernel
theorem dL_law_3868 : decode cL_law 3868 = .ok (.iload 5, 2) := by decide +kernel
theorem dL_law_3870 : decode cL_law 3870 = .ok (.if_icmp .eq 5, 3) := by decide +kernel
theorem dL_law_3873 : decode cL_law 3873 = .ok (.iconst 0, 1) := by decide +kernel
theorem dL_law_3874 : decode cL_law 3874 = .ok (.ireturn, 1) := by decide +kernel
theorem dL_law_3875 : decode cL_law 3875 = .ok (.iload 5, 2) := by decide +kernel
theorem dL_law_3877 : decode cL_law 3877 = .ok (.ifCond .ne 14, 3) := by decide +kernel
theorem dL_law_3880 : decode cL_law 3880 = .ok (.aload_n 3, 1) := by decide +kernel
theorem dL_law_3881 : decode cL_law 3881 = .ok (.iconst 0, 1) := by decide +kernel
theorem dL_law_3882 : decode cL_law 3882 = .ok (.laload, 1) := by decide +kernel
theorem dL_law_3883 : decode cL_law 3883 = .ok (.lload 6, 2) := by decide +kernel
theorem dL_law_3885 : decode cL_law 3885 = .ok (.lcmp, 1) := by decide +kernel
theorem dL_law_3886 : decode cL_law 3886 = .ok (.ifCond .eq 5, 3) := by decide +kernel
theorem dL_law_3889 : decode cL_law 3889 = .ok (.iconst 0, 1) := by decide +kernel
theorem dL_law_3890 : decode cL_law 3890 = .ok (.ireturn, 1) := by decide +kernel
theorem dL_law_3891 : decode cL_law 3891 = .ok (.goto 342, 3) := by decide +kernel
theorem dL_law_3894 : decode cL_law 3894 = .ok (.aload_n 1, 1) := by decide +kernel
theorem dL_law_3895 : decode cL_law 3895 = .ok (.aload_n 0, 1) := by decide +kernel
theorem dL_law_3896 : decode cL_law 3896 = .ok (.iload 4, 2) := by decide +kernel
theorem dL_law_3898 : decode cL_law 3898 = .ok (.iconst 1, 1) := by decide +kernel
theorem dL_law_3899 : decode cL_law 3899 = .ok (.iadd, 1) := by decide +kernel
theorem dL_law_3900 : decode cL_law 3900 = .ok (.iaload, 1) := by decide +kernel
theorem dL_law_3901 : decode cL_law 3901 = .ok (.aload_n 0, 1) := by decide +kernel
theorem dL_law_3902 : decode cL_law 3902 = .ok (.iload 4, 2) := by decide +kernel
theorem dL_law_3904 : decode cL_law 3904 = .ok (.iconst 2, 1) := by decide +kernel
theorem dL_law_3905 : decode cL_law 3905 = .ok (.iadd, 1) := by decide +kernel
theorem dL_law_3906 : decode cL_law 3906 = .ok (.iaload, 1) := by decide +kernel
theorem dL_law_3907 : decode cL_law 3907 = .ok (.aload_n 0, 1) := by decide +kernel
theorem dL_law_3908 : decode cL_law 3908 = .ok (.iload 4, 2) := by decide +kernel
theorem dL_law_3910 : decode cL_law 3910 = .ok (.iconst 3, 1) := by decide +kernel
theorem dL_law_3911 : decode cL_law 3911 = .ok (.iadd, 1) := by decide +kernel
theorem dL_law_3912 : decode cL_law 3912 = .ok (.iaload, 1) := by decide +kernel
theorem dL_law_3913 : decode cL_law 3913 = .ok (.aload_n 3, 1) := by decide +kernel
theorem dL_law_3914 : decode cL_law 3914 = .ok (.invokestatic 318, 3) := by decide +kernel
theorem dL_law_3917 : decode cL_law 3917 = .ok (.istore 5, 2) := by decide +kernel
theorem dL_law_3919 : decode cL_law 3919 = .ok (.aload_n 2, 1) := by decide +kernel
theorem dL_law_3920 : decode cL_law 3920 = .ok (.aload_n 0, 1) := by decide +kernel
theorem dL_law_3921 : decode cL_law 3921 = .ok (.iload 4, 2) := by decide +kernel
theorem dL_law_3923 : decode cL_law 3923 = .ok (.iconst 1, 1) := by decide +kernel
theorem dL_law_3924 : decode cL_law 3924 = .ok (.iadd, 1) := by decide +kernel
theorem dL_law_3925 : decode cL_law 3925 = .ok (.iaload, 1) := by decide +kernel
theorem dL_law_3926 : decode cL_law 3926 = .ok (.aload_n 0, 1) := by decide +kernel
theorem dL_law_3927 : decode cL_law 3927 = .ok (.iload 4, 2) := by decide +kernel
theorem dL_law_3929 : decode cL_law 3929 = .ok (.iconst 2, 1) := by decide +kernel
theorem dL_law_3930 : decode cL_law 3930 = .ok (.iadd, 1) := by decide +kernel
theorem dL_law_3931 : decode cL_law 3931 = .ok (.iaload, 1) := by decide +kernel
theorem dL_law_3932 : decode cL_law 3932 = .ok (.aload_n 0, 1) := by decide +kernel
theorem dL_law_3933 : decode cL_law 3933 = .ok (.iload 4, 2) := by decide +kernel
theorem dL_law_3935 : decode cL_law 3935 = .ok (.iconst 3, 1) := by decide +kernel
theorem dL_law_3936 : decode cL_law 3936 = .ok (.iadd, 1) := by decide +kernel
theorem dL_law_3937 : decode cL_law 3937 = .ok (.iaload, 1) := by decide +kernel
theorem dL_law_3938 : decode cL_law 3938 = .ok (.invokevirtual 320, 3) := by decide +kernel
theorem dL_law_3941 : decode cL_law 3941 = .ok (.lstore 6, 2) := by decide +kernel
theorem dL_law_3943 : decode cL_law 3943 = .ok (.aload_n 2, 1) := by decide +kernel
theorem dL_law_3944 : decode cL_law 3944 = .ok (.invokevirtual 177, 3) := by decide +kernel
theorem dL_law_3947 : decode cL_law 3947 = .ok (.iload 5, 2) := by decide +kernel
theorem dL_law_3949 : decode cL_law 3949 = .ok (.if_icmp .eq 5, 3) := by decide +kernel
theorem dL_law_3952 : decode cL_law 3952 = .ok (.iconst 0, 1) := by decide +kernel
theorem dL_law_3953 : decode cL_law 3953 = .ok (.ireturn, 1) := by decide +kernel
theorem dL_law_3954 : decode cL_law 3954 = .ok (.iload 5, 2) := by decide +kernel
theorem dL_law_3956 : decode cL_law 3956 = .ok (.ifCond .ne 14, 3) := by decide +kernel
theorem dL_law_3959 : decode cL_law 3959 = .ok (.aload_n 3, 1) := by decide +kernel
theorem dL_law_3960 : decode cL_law 3960 = .ok (.iconst 0, 1) := by decide +kernel
theorem dL_law_3961 : decode cL_law 3961 = .ok (.laload, 1) := by decide +kernel
theorem dL_law_3962 : decode cL_law 3962 = .ok (.lload 6, 2) := by decide +kernel
theorem dL_law_3964 : decode cL_law 3964 = .ok (.lcmp, 1) := by decide +kernel
theorem dL_law_3965 : decode cL_law 3965 = .ok (.ifCond .eq 5, 3) := by decide +kernel
theorem dL_law_3968 : decode cL_law 3968 = .ok (.iconst 0, 1) := by decide +kernel
theorem dL_law_3969 : decode cL_law 3969 = .ok (.ireturn, 1) := by decide +kernel
theorem dL_law_3970 : decode cL_law 3970 = .ok (.goto 263, 3) := by decide +kernel
theorem dL_law_3973 : decode cL_law 3973 = .ok (.aload_n 1, 1) := by decide +kernel
theorem dL_law_3974 : decode cL_law 3974 = .ok (.aload_n 0, 1) := by decide +kernel
theorem dL_law_3975 : decode cL_law 3975 = .ok (.iload 4, 2) := by decide +kernel
theorem dL_law_3977 : decode cL_law 3977 = .ok (.iconst 1, 1) := by decide +kernel
theorem dL_law_3978 : decode cL_law 3978 = .ok (.iadd, 1) := by decide +kernel
theorem dL_law_3979 : decode cL_law 3979 = .ok (.iaload, 1) := by decide +kernel
theorem dL_law_3980 : decode cL_law 3980 = .ok (.aload_n 0, 1) := by decide +kernel
theorem dL_law_3981 : decode cL_law 3981 = .ok (.iload 4, 2) := by decide +kernel
theorem dL_law_3983 : decode cL_law 3983 = .ok (.iconst 2, 1) := by decide +kernel
theorem dL_law_3984 : decode cL_law 3984 = .ok (.iadd, 1) := by decide +kernel
theorem dL_law_3985 : decode cL_law 3985 = .ok (.iaload, 1) := by decide +kernel
theorem dL_law_3986 : decode cL_law 3986 = .ok (.aload_n 0, 1) := by decide +kernel
theorem dL_law_3987 : decode cL_law 3987 = .ok (.iload 4, 2) := by decide +kernel
theorem dL_law_3989 : decode cL_law 3989 = .ok (.iconst 3, 1) := by decide +kernel
theorem dL_law_3990 : decode cL_law 3990 = .ok (.iadd, 1) := by decide +kernel
theorem dL_law_3991 : decode cL_law 3991 = .ok (.iaload, 1) := by decide +kernel
theorem dL_law_3992 : decode cL_law 3992 = .ok (.i2c, 1) := by decide +kernel
theorem dL_law_3993 : decode cL_law 3993 = .ok (.aload_n 3, 1) := by decide +kernel
theorem dL_law_3994 : decode cL_law 3994 = .ok (.invokestatic 321, 3) := by decide +kernel
theorem dL_law_3997 : decode cL_law 3997 = .ok (.istore 5, 2) := by decide +kernel
theorem dL_law_3999 : decode cL_law 3999 = .ok (.aload_n 2, 1) := by decide +kernel
theorem dL_law_4000 : decode cL_law 4000 = .ok (.aload_n 0, 1) := by decide +kernel
theorem dL_law_4001 : decode cL_law 4001 = .ok (.iload 4, 2) := by decide +kernel
theorem dL_law_4003 : decode cL_law 4003 = .ok (.iconst 1, 1) := by decide +kernel
theorem dL_law_4004 : decode cL_law 4004 = .ok (.iadd, 1) := by decide +kernel
theorem dL_law_4005 : decode cL_law 4005 = .ok (.iaload, 1) := by decide +kernel
theorem dL_law_4006 : decode cL_law 4006 = .ok (.aload_n 0, 1) := by decide +kernel
theorem dL_law_4007 : decode cL_law 4007 = .ok (.iload 4, 2) := by decide +kernel
theorem dL_law_4009 : decode cL_law 4009 = .ok (.iconst 2, 1) := by decide +kernel
theorem dL_law_4010 : decode cL_law 4010 = .ok (.iadd, 1) := by decide +kernel
theorem dL_law_4011 : decode cL_law 4011 = .ok (.iaload, 1) := by decide +kernel
theorem dL_law_4012 : decode cL_law 4012 = .ok (.aload_n 0, 1) := by decide +kernel
theorem dL_law_4013 : decode cL_law 4013 = .ok (.iload 4, 2) := by decide +kernel
theorem dL_law_4015 : decode cL_law 4015 = .ok (.iconst 3, 1) := by decide +kernel
theorem dL_law_4016 : decode cL_law 4016 = .ok (.iadd, 1) := by decide +kernel
theorem dL_law_4017 : decode cL_law 4017 = .ok (.iaload, 1) := by decide +kernel
theorem dL_law_4018 : decode cL_law 4018 = .ok (.i2c, 1) := by decide +kernel
theorem dL_law_4019 : decode cL_law 4019 = .ok (.invokevirtual 323, 3) := by decide +kernel
theorem dL_law_4022 : decode cL_law 4022 = .ok (.lstore 6, 2) := by decide +kernel
theorem dL_law_4024 : decode cL_law 4024 = .ok (.aload_n 2, 1) := by decide +kernel
theorem dL_law_4025 : decode cL_law 4025 = .ok (.invokevirtual 177, 3) := by decide +kernel
theorem dL_law_4028 : decode cL_law 4028 = .ok (.iload 5, 2) := by decide +kernel
theorem dL_law_4030 : decode cL_law 4030 = .ok (.if_icmp .eq 5, 3) := by decide +kernel
theorem dL_law_4033 : decode cL_law 4033 = .ok (.iconst 0, 1) := by decide +kernel
theorem dL_law_4034 : decode cL_law 4034 = .ok (.ireturn, 1) := by decide +kernel
theorem dL_law_4035 : decode cL_law 4035 = .ok (.iload 5, 2) := by decide +kernel
theorem dL_law_4037 : decode cL_law 4037 = .ok (.ifCond .ne 14, 3) := by decide +kernel
theorem dL_law_4040 : decode cL_law 4040 = .ok (.aload_n 3, 1) := by decide +kernel
theorem dL_law_4041 : decode cL_law 4041 = .ok (.iconst 0, 1) := by decide +kernel
theorem dL_law_4042 : decode cL_law 4042 = .ok (.laload, 1) := by decide +kernel
theorem dL_law_4043 : decode cL_law 4043 = .ok (.lload 6, 2) := by decide +kernel
theorem dL_law_4045 : decode cL_law 4045 = .ok (.lcmp, 1) := by decide +kernel
theorem dL_law_4046 : decode cL_law 4046 = .ok (.ifCond .eq 5, 3) := by decide +kernel
theorem dL_law_4049 : decode cL_law 4049 = .ok (.iconst 0, 1) := by decide +kernel
theorem dL_law_4050 : decode cL_law 4050 = .ok (.ireturn, 1) := by decide +kernel
theorem dL_law_4051 : decode cL_law 4051 = .ok (.goto 182, 3) := by decide +kernel
theorem dL_law_4054 : decode cL_law 4054 = .ok (.aload_n 1, 1) := by decide +kernel
theorem dL_law_4055 : decode cL_law 4055 = .ok (.aload_n 0, 1) := by decide +kernel
theorem dL_law_4056 : decode cL_law 4056 = .ok (.iload 4, 2) := by decide +kernel
theorem dL_law_4058 : decode cL_law 4058 = .ok (.iconst 1, 1) := by decide +kernel
theorem dL_law_4059 : decode cL_law 4059 = .ok (.iadd, 1) := by decide +kernel
theorem dL_law_4060 : decode cL_law 4060 = .ok (.iaload, 1) := by decide +kernel
theorem dL_law_4061 : decode cL_law 4061 = .ok (.aload_n 0, 1) := by decide +kernel
theorem dL_law_4062 : decode cL_law 4062 = .ok (.iload 4, 2) := by decide +kernel
theorem dL_law_4064 : decode cL_law 4064 = .ok (.iconst 2, 1) := by decide +kernel
theorem dL_law_4065 : decode cL_law 4065 = .ok (.iadd, 1) := by decide +kernel
theorem dL_law_4066 : decode cL_law 4066 = .ok (.iaload, 1) := by decide +kernel
theorem dL_law_4067 : decode cL_law 4067 = .ok (.aload_n 3, 1) := by decide +kernel
theorem dL_law_4068 : decode cL_law 4068 = .ok (.invokestatic 324, 3) := by decide +kernel
theorem dL_law_4071 : decode cL_law 4071 = .ok (.istore 5, 2) := by decide +kernel
theorem dL_law_4073 : decode cL_law 4073 = .ok (.aload_n 2, 1) := by decide +kernel
theorem dL_law_4074 : decode cL_law 4074 = .ok (.aload_n 0, 1) := by decide +kernel
theorem dL_law_4075 : decode cL_law 4075 = .ok (.iload 4, 2) := by decide +kernel
theorem dL_law_4077 : decode cL_law 4077 = .ok (.iconst 1, 1) := by decide +kernel
theorem dL_law_4078 : decode cL_law 4078 = .ok (.iadd, 1) := by decide +kernel
theorem dL_law_4079 : decode cL_law 4079 = .ok (.iaload, 1) := by decide +kernel
theorem dL_law_4080 : decode cL_law 4080 = .ok (.aload_n 0, 1) := by decide +kernel
theorem dL_law_4081 : decode cL_law 4081 = .ok (.iload 4, 2) := by decide +kernel
theorem dL_law_4083 : decode cL_law 4083 = .ok (.iconst 2, 1) := by decide +kernel
theorem dL_law_4084 : decode cL_law 4084 = .ok (.iadd, 1) := by decide +kernel
theorem dL_law_4085 : decode cL_law 4085 = .ok (.iaload, 1) := by decide +kernel
theorem dL_law_4086 : decode cL_law 4086 = .ok (.invokevirtual 326, 3) := by decide +kernel
theorem dL_law_4089 : decode cL_law 4089 = .ok (.istore 6, 2) := by decide +kernel
theorem dL_law_4091 : decode cL_law 4091 = .ok (.aload_n 2, 1) := by decide +kernel
theorem dL_law_4092 : decode cL_law 4092 = .ok (.invokevirtual 177, 3) := by decide +kernel
theorem dL_law_4095 : decode cL_law 4095 = .ok (.iload 5, 2) := by decide +kernel
theorem dL_law_4097 : decode cL_law 4097 = .ok (.if_icmp .eq 5, 3) := by decide +kernel
theorem dL_law_4100 : decode cL_law 4100 = .ok (.iconst 0, 1) := by decide +kernel
theorem dL_law_4101 : decode cL_law 4101 = .ok (.ireturn, 1) := by decide +kernel
theorem dL_law_4102 : decode cL_law 4102 = .ok (.iload 5, 2) := by decide +kernel
theorem dL_law_4104 : decode cL_law 4104 = .ok (.ifCond .ne 15, 3) := by decide +kernel
theorem dL_law_4107 : decode cL_law 4107 = .ok (.aload_n 3, 1) := by decide +kernel
theorem dL_law_4108 : decode cL_law 4108 = .ok (.iconst 0, 1) := by decide +kernel
theorem dL_law_4109 : decode cL_law 4109 = .ok (.laload, 1) := by decide +kernel
theorem dL_law_4110 : decode cL_law 4110 = .ok (.iload 6, 2) := by decide +kernel
theorem dL_law_4112 : decode cL_law 4112 = .ok (.i2l, 1) := by decide +kernel
theorem dL_law_4113 : decode cL_law 4113 = .ok (.lcmp, 1) := by decide +kernel
theorem dL_law_4114 : decode cL_law 4114 = .ok (.ifCond .eq 5, 3) := by decide +kernel
theorem dL_law_4117 : decode cL_law 4117 = .ok (.iconst 0, 1) := by decide +kernel
theorem dL_law_4118 : decode cL_law 4118 = .ok (.ireturn, 1) := by decide +kernel
theorem dL_law_4119 : decode cL_law 4119 = .ok (.goto 114, 3) := by decide +kernel
theorem dL_law_4122 : decode cL_law 4122 = .ok (.aload_n 1, 1) := by decide +kernel
theorem dL_law_4123 : decode cL_law 4123 = .ok (.invokevirtual 327, 3) := by decide +kernel
theorem dL_law_4126 : decode cL_law 4126 = .ok (.f2d, 1) := by decide +kernel
theorem dL_law_4127 : decode cL_law 4127 = .ok (.dstore 5, 2) := by decide +kernel
theorem dL_law_4129 : decode cL_law 4129 = .ok (.aload_n 2, 1) := by decide +kernel
theorem dL_law_4130 : decode cL_law 4130 = .ok (.invokevirtual 331, 3) := by decide +kernel
theorem dL_law_4133 : decode cL_law 4133 = .ok (.f2d, 1) := by decide +kernel
theorem dL_law_4134 : decode cL_law 4134 = .ok (.dstore 7, 2) := by decide +kernel
theorem dL_law_4136 : decode cL_law 4136 = .ok (.dload 5, 2) := by decide +kernel
theorem dL_law_4138 : decode cL_law 4138 = .ok (.dload 7, 2) := by decide +kernel
theorem dL_law_4140 : decode cL_law 4140 = .ok (.dcmp .l, 1) := by decide +kernel
theorem dL_law_4141 : decode cL_law 4141 = .ok (.ifCond .eq 21, 3) := by decide +kernel
theorem dL_law_4144 : decode cL_law 4144 = .ok (.dload 5, 2) := by decide +kernel
theorem dL_law_4146 : decode cL_law 4146 = .ok (.dload 5, 2) := by decide +kernel
theorem dL_law_4148 : decode cL_law 4148 = .ok (.dcmp .l, 1) := by decide +kernel
theorem dL_law_4149 : decode cL_law 4149 = .ok (.ifCond .eq 11, 3) := by decide +kernel
theorem dL_law_4152 : decode cL_law 4152 = .ok (.dload 7, 2) := by decide +kernel
theorem dL_law_4154 : decode cL_law 4154 = .ok (.dload 7, 2) := by decide +kernel
theorem dL_law_4156 : decode cL_law 4156 = .ok (.dcmp .l, 1) := by decide +kernel
theorem dL_law_4157 : decode cL_law 4157 = .ok (.ifCond .ne 5, 3) := by decide +kernel
theorem dL_law_4160 : decode cL_law 4160 = .ok (.iconst 0, 1) := by decide +kernel
theorem dL_law_4161 : decode cL_law 4161 = .ok (.ireturn, 1) := by decide +kernel
theorem dL_law_4162 : decode cL_law 4162 = .ok (.goto 71, 3) := by decide +kernel
theorem dL_law_4165 : decode cL_law 4165 = .ok (.aload_n 1, 1) := by decide +kernel
theorem dL_law_4166 : decode cL_law 4166 = .ok (.invokevirtual 332, 3) := by decide +kernel
theorem dL_law_4169 : decode cL_law 4169 = .ok (.dstore 5, 2) := by decide +kernel
theorem dL_law_4171 : decode cL_law 4171 = .ok (.aload_n 2, 1) := by decide +kernel
theorem dL_law_4172 : decode cL_law 4172 = .ok (.invokevirtual 336, 3) := by decide +kernel
theorem dL_law_4175 : decode cL_law 4175 = .ok (.dstore 7, 2) := by decide +kernel
theorem dL_law_4177 : decode cL_law 4177 = .ok (.dload 5, 2) := by decide +kernel
theorem dL_law_4179 : decode cL_law 4179 = .ok (.dload 7, 2) := by decide +kernel
theorem dL_law_4181 : decode cL_law 4181 = .ok (.dcmp .l, 1) := by decide +kernel
theorem dL_law_4182 : decode cL_law 4182 = .ok (.ifCond .eq 21, 3) := by decide +kernel
theorem dL_law_4185 : decode cL_law 4185 = .ok (.dload 5, 2) := by decide +kernel
theorem dL_law_4187 : decode cL_law 4187 = .ok (.dload 5, 2) := by decide +kernel
theorem dL_law_4189 : decode cL_law 4189 = .ok (.dcmp .l, 1) := by decide +kernel
theorem dL_law_4190 : decode cL_law 4190 = .ok (.ifCond .eq 11, 3) := by decide +kernel
theorem dL_law_4193 : decode cL_law 4193 = .ok (.dload 7, 2) := by decide +kernel
theorem dL_law_4195 : decode cL_law 4195 = .ok (.dload 7, 2) := by decide +kernel
theorem dL_law_4197 : decode cL_law 4197 = .ok (.dcmp .l, 1) := by decide +kernel
theorem dL_law_4198 : decode cL_law 4198 = .ok (.ifCond .ne 5, 3) := by decide +kernel
theorem dL_law_4201 : decode cL_law 4201 = .ok (.iconst 0, 1) := by decide +kernel
theorem dL_law_4202 : decode cL_law 4202 = .ok (.ireturn, 1) := by decide +kernel
theorem dL_law_4203 : decode cL_law 4203 = .ok (.goto 30, 3) := by decide +kernel
theorem dL_law_4206 : decode cL_law 4206 = .ok (.aload_n 1, 1) := by decide +kernel
theorem dL_law_4207 : decode cL_law 4207 = .ok (.invokevirtual 337, 3) := by decide +kernel
theorem dL_law_4210 : decode cL_law 4210 = .ok (.aload_n 2, 1) := by decide +kernel
theorem dL_law_4211 : decode cL_law 4211 = .ok (.invokevirtual 341, 3) := by decide +kernel
theorem dL_law_4214 : decode cL_law 4214 = .ok (.lcmp, 1) := by decide +kernel
theorem dL_law_4215 : decode cL_law 4215 = .ok (.ifCond .eq 18, 3) := by decide +kernel
theorem dL_law_4218 : decode cL_law 4218 = .ok (.iconst 0, 1) := by decide +kernel
theorem dL_law_4219 : decode cL_law 4219 = .ok (.ireturn, 1) := by decide +kernel
theorem dL_law_4220 : decode cL_law 4220 = .ok (.aload_n 1, 1) := by decide +kernel
theorem dL_law_4221 : decode cL_law 4221 = .ok (.invokevirtual 342, 3) := by decide +kernel
theorem dL_law_4224 : decode cL_law 4224 = .ok (.aload_n 2, 1) := by decide +kernel
theorem dL_law_4225 : decode cL_law 4225 = .ok (.invokevirtual 346, 3) := by decide +kernel
theorem dL_law_4228 : decode cL_law 4228 = .ok (.if_icmp .eq 5, 3) := by decide +kernel
theorem dL_law_4231 : decode cL_law 4231 = .ok (.iconst 0, 1) := by decide +kernel
theorem dL_law_4232 : decode cL_law 4232 = .ok (.ireturn, 1) := by decide +kernel
theorem dL_law_4233 : decode cL_law 4233 = .ok (.iinc 4 6, 3) := by decide +kernel
theorem dL_law_4236 : decode cL_law 4236 = .ok (.goto (-4213), 3) := by decide +kernel
theorem dL_law_4239 : decode cL_law 4239 = .ok (.iconst 1, 1) := by decide +kernel
theorem dL_law_4240 : decode cL_law 4240 = .ok (.ireturn, 1) := by decide +kernel
